import java.math.BigInteger;
import java.util.ArrayDeque;
import java.util.ArrayList;
import java.util.Arrays;
import java.util.Comparator;
import java.util.Deque;
import java.util.HashSet;
import java.util.List;
import java.util.Set;
import java.util.TreeSet;
import java.util.function.IntFunction;
import java.util.function.IntUnaryOperator;
import java.util.function.Predicate;
import java.util.stream.IntStream;

/** The document a second time, in another form and without care for speed: the program is held against it. */
final class Model {
    /** CLOTH; each other KIND is a class under the one that the document names. */
    static class Cell {
        final int figure;
        final int age;
        final int wear;

        Cell(int figure, int age, int wear) {
            this.figure = figure;
            this.age = age;
            this.wear = wear;
        }

        int kind() {
            return 0;
        }

        int pull(List<Cell> beside) {
            return beside.stream().mapToInt(other -> Math.abs(other.age - age)).sum() / 4;
        }

        int wears(int year, List<Cell> beside) {
            return 1 + pull(beside) / 5;
        }

        int holds() {
            return 10 + figure;
        }

        final boolean hole() {
            return wear >= holds();
        }

        final Cell worn(int v) {
            return of(kind(), figure, age, v);
        }

        final Cell aged(int v) {
            return of(kind(), figure, v, wear);
        }

        static Cell of(int kind, int figure, int age, int wear) {
            switch (kind) {
                case 0: return new Cell(figure, age, wear);
                case 1: return new Wool(figure, age, wear);
                case 2: return new Silk(figure, age, wear);
                case 3: return new Linen(figure, age, wear);
                case 4: return new Patch(figure, age, wear);
                case 5: return new Corn(figure, age, wear);
                default: throw new IllegalArgumentException("kind " + kind);
            }
        }
    }

    static class Wool extends Cell {
        Wool(int figure, int age, int wear) {
            super(figure, age, wear);
        }

        @Override int kind() {
            return 1;
        }

        @Override int pull(List<Cell> beside) {
            return super.pull(beside) / 2;
        }

        @Override int holds() {
            return super.holds() + 5;
        }
    }

    static final class Silk extends Cell {
        Silk(int figure, int age, int wear) {
            super(figure, age, wear);
        }

        @Override int kind() {
            return 2;
        }

        @Override int pull(List<Cell> beside) {
            return super.pull(beside) + beside.size();
        }

        @Override int wears(int year, List<Cell> beside) {
            return super.wears(year, beside) + 1;
        }

        @Override int holds() {
            return super.holds() / 2;
        }
    }

    static final class Linen extends Wool {
        Linen(int figure, int age, int wear) {
            super(figure, age, wear);
        }

        @Override int kind() {
            return 3;
        }

        @Override int pull(List<Cell> beside) {
            return super.pull(beside) + figure / 3;
        }

        @Override int wears(int year, List<Cell> beside) {
            return year % 2 == 0 ? 0 : super.wears(year, beside);
        }
    }

    static class Patch extends Cell {
        Patch(int figure, int age, int wear) {
            super(figure, age, wear);
        }

        @Override int kind() {
            return 4;
        }

        @Override int pull(List<Cell> beside) {
            return 2 * super.pull(beside);
        }

        @Override int holds() {
            return 5;
        }
    }

    static final class Corn extends Patch {
        Corn(int figure, int age, int wear) {
            super(figure, age, wear);
        }

        @Override int kind() {
            return 5;
        }

        @Override int pull(List<Cell> beside) {
            return Math.max(0, super.pull(beside) - figure);
        }

        @Override int wears(int year, List<Cell> beside) {
            return super.wears(year, beside) - 1;
        }

        @Override int holds() {
            return 2 * super.holds();
        }
    }

    /** Trousers that never change: whatever happens to them makes others. */
    static final class World {
        final List<Cell> cells;
        final int year;

        World(List<Cell> cells, int year) {
            this.cells = cells;
            this.year = year;
        }

        World with(int cell, Cell other) {
            List<Cell> all = new ArrayList<>(cells);
            all.set(cell, other);
            return new World(all, year);
        }

        static List<Integer> besides(int cell) {
            List<Integer> all = new ArrayList<>();
            for (int other = 0; other < 12; other++) {
                int far = Math.abs(cell / 4 - other / 4) + Math.abs(cell % 4 - other % 4);
                if (far == 1) all.add(other);
            }
            return all;
        }

        List<Cell> around(int cell) {
            List<Cell> all = new ArrayList<>();
            for (int other : besides(cell)) all.add(cells.get(other));
            return all;
        }

        int pull(int cell) {
            return cells.get(cell).pull(around(cell));
        }

        int allPull() {
            return sum(this::pull);
        }

        int wears(int cell) {
            return cells.get(cell).wears(year + 1, around(cell));
        }

        World after(int years) {
            if (years == 0) return this;
            List<Cell> next = new ArrayList<>();
            for (int cell = 0; cell < 12; cell++) {
                Cell old = cells.get(cell);
                next.add(old.worn(Math.min(99, old.wear + wears(cell))).aged(Math.min(99, old.age + 1)));
            }
            return new World(next, year + 1).after(years - 1);
        }

        int holes() {
            int bits = 0;
            for (int cell = 0; cell < 12; cell++) if (cells.get(cell).hole()) bits |= 1 << cell;
            return bits;
        }

        /** 61 for never. */
        int first(Predicate<World> so, int from) {
            World world = this;
            for (int n = from; n <= 60; n++) {
                if (so.test(world)) return n;
                world = world.after(1);
            }
            return 61;
        }

        int firstHole() {
            return first(world -> world.holes() != 0, 0);
        }

        int lasts(int cell) {
            return first(world -> world.cells.get(cell).hole(), 0);
        }

        static int sum(IntUnaryOperator of) {
            return IntStream.range(0, 12).map(of).sum();
        }
    }

    private static final class Piece {
        final int kind;
        final int figure;
        final int age;

        Piece(int kind, int figure, int age) {
            this.kind = kind;
            this.figure = figure;
            this.age = age;
        }
    }

    private static final class Everything {
        World world;
        List<Piece> pieces = new ArrayList<>();
        Set<Integer> used = new TreeSet<>();

        Everything copy() {
            Everything other = new Everything();
            other.world = world;
            other.pieces = new ArrayList<>(pieces);
            other.used = new TreeSet<>(used);
            return other;
        }

        List<Integer> free() {
            List<Integer> all = new ArrayList<>();
            for (int i = 0; i < pieces.size(); i++) if (!used.contains(i)) all.add(i);
            return all;
        }

        World put(World on, int piece, int cell) {
            Piece p = pieces.get(piece);
            return on.with(cell, Cell.of(p.kind, p.figure, p.age, 0));
        }
    }

    private Everything now = new Everything();
    private Everything image;
    private final Deque<Everything> past = new ArrayDeque<>();
    private final StringBuilder letters = new StringBuilder();
    private final List<Integer> row = new ArrayList<>();
    private final int[] refusals = new int[7];

    Model() {
        List<Cell> cells = new ArrayList<>();
        for (int cell = 0; cell < 12; cell++) cells.add(Cell.of(0, 0, 0, 0));
        now.world = new World(cells, 0);
    }

    private int no(int why) {
        refusals[-why]++;
        return why;
    }

    private long noLong(int why) {
        return 4000000000000000000L - no(why);
    }

    private static boolean in(int v, int least, int most) {
        return least <= v && v <= most;
    }

    private void remember() {
        past.push(now.copy());
        if (past.size() > 8) past.removeLast();
    }

    private Cell at(int cell) {
        return now.world.cells.get(cell);
    }

    // ---- the face

    int feed(int letter) {
        if (letter < 0) return no(-4);
        if (letter > 255 || letters.length() == 96) return no(-6);
        letters.append((char) letter);
        return letters.length();
    }

    int trousers() {
        String text = letters.toString();
        letters.setLength(0);
        int end = 0;
        List<String> statements = new ArrayList<>();
        while (end < text.length() || text.isEmpty()) {
            String form = form(text, end);
            for (int i = 0; i < form.length(); i++, end++) {
                if (end == text.length()) return -1000 - end;
                char want = form.charAt(i);
                char got = text.charAt(end);
                if (want == '0' ? got < '0' || got > '9' : got != want) return -1000 - end;
            }
            statements.add(text.substring(end - form.length(), end));
        }
        Everything then = now.copy();
        int place = 0;
        for (String statement : statements) {
            if (!tell(then, statement)) return -2000 - place;
            place += statement.length();
        }
        now = then;
        past.clear();
        return statements.size();
    }

    private static String form(String text, int at) {
        for (String form : List.of("c00000000;", "r0000;", "p000;", "w0000;", "y00;")) {
            if (at < text.length() && form.charAt(0) == text.charAt(at)) return form;
        }
        return "\uffff";
    }

    private static boolean tell(Everything then, String s) {
        IntFunction<Integer> one = i -> s.charAt(i) - '0';
        IntFunction<Integer> two = i -> Integer.parseInt(s.substring(i, i + 2));
        switch (s.charAt(0)) {
            case 'c': {
                int first = two.apply(1);
                int last = two.apply(3);
                if (first > last || last > 11 || one.apply(5) > 5) return false;
                for (int cell = first; cell <= last; cell++) {
                    then.world = then.world.with(cell, Cell.of(one.apply(5), one.apply(6), two.apply(7), 0));
                }
                return true;
            }
            case 'r':
                if (one.apply(1) > 5 || then.pieces.size() == 6) return false;
                then.pieces.add(new Piece(one.apply(1), one.apply(2), two.apply(3)));
                return true;
            case 'p':
                if (!then.free().contains(one.apply(1)) || two.apply(2) > 11) return false;
                then.world = then.put(then.world, one.apply(1), two.apply(2));
                then.used.add(one.apply(1));
                return true;
            case 'w':
                if (two.apply(1) > 11) return false;
                then.world = then.world.with(two.apply(1), then.world.cells.get(two.apply(1)).worn(two.apply(3)));
                return true;
            default:
                if (!in(two.apply(1), 1, 60) || then.world.year + two.apply(1) > 999) return false;
                then.world = then.world.after(two.apply(1));
                return true;
        }
    }

    int cellOf(int cell, int what) {
        if (!in(cell, 0, 11)) return no(-1);
        if (!in(what, 0, 7)) return no(-2);
        Cell c = at(cell);
        return new int[] {c.kind(), c.figure, c.age, c.wear, now.world.pull(cell), now.world.wears(cell), c.holds(),
            c.hole() ? 1 : 0}[what];
    }

    int pieceOf(int piece, int what) {
        if (!in(piece, 0, now.pieces.size() - 1)) return no(-1);
        if (!in(what, 0, 3)) return no(-2);
        Piece p = now.pieces.get(piece);
        return new int[] {p.kind, p.figure, p.age, now.used.contains(piece) ? 1 : 0}[what];
    }

    int piece(int kind, int figure, int age) {
        if (!in(kind, 0, 5)) return no(-2);
        if (figure < 0 || age < 0) return no(-4);
        if (figure > 9 || age > 99 || now.pieces.size() == 6) return no(-6);
        now.pieces.add(new Piece(kind, figure, age));
        past.clear();
        return now.pieces.size() - 1;
    }

    int cell(int cell, int kind, int figure, int age) {
        if (!in(cell, 0, 11)) return no(-1);
        if (!in(kind, 0, 5)) return no(-2);
        if (figure < 0 || age < 0) return no(-4);
        if (figure > 9 || age > 99) return no(-6);
        remember();
        int had = at(cell).age;
        now.world = now.world.with(cell, Cell.of(kind, figure, age, 0));
        return had;
    }

    int puts(int piece, int cell) {
        if (!in(piece, 0, now.pieces.size() - 1) || !in(cell, 0, 11)) return no(-1);
        if (now.used.contains(piece)) return no(-3);
        remember();
        now.world = now.put(now.world, piece, cell);
        now.used.add(piece);
        return now.world.allPull();
    }

    int wears(int cell, int v) {
        if (!in(cell, 0, 11)) return no(-1);
        if (v < 0) return no(-4);
        if (v > 99) return no(-6);
        remember();
        int was = at(cell).wear;
        now.world = now.world.with(cell, at(cell).worn(v));
        return was;
    }

    int years(int n) {
        if (n < 1) return no(-4);
        if (n > 60 || now.world.year + n > 999) return no(-6);
        remember();
        now.world = now.world.after(n);
        return Integer.bitCount(now.world.holes());
    }

    int back() {
        if (past.isEmpty()) return no(-3);
        now = past.pop();
        return past.size();
    }

    int behind(int cell, int n, int what) {
        if (!in(cell, 0, 11)) return no(-1);
        if (n < 0) return no(-4);
        if (n > 60) return no(-6);
        if (!in(what, 0, 2)) return no(-2);
        World then = now.world.after(n);
        Cell c = then.cells.get(cell);
        return new int[] {c.wear, then.pull(cell), c.hole() ? 1 : 0}[what];
    }

    int all(int n, int what) {
        if (n < 0) return no(-4);
        if (n > 60) return no(-6);
        if (!in(what, 0, 2)) return no(-2);
        World then = now.world.after(n);
        return new int[] {Integer.bitCount(then.holes()), World.sum(cell -> then.cells.get(cell).wear),
            then.allPull()}[what];
    }

    int holes(int what) {
        if (!in(what, 0, 2)) return no(-2);
        if (what == 2) return best(12, cell -> -now.world.lasts(cell));
        int first = now.world.firstHole();
        if (first == 61) return -9;
        return what == 0 ? first : Integer.numberOfTrailingZeros(now.world.after(first).holes());
    }

    /** The least of 0 .. many - 1 of which the measure is least. */
    private static int best(int many, IntUnaryOperator measure) {
        return IntStream.range(0, many).boxed().min(Comparator.comparingInt(measure::applyAsInt)).orElse(-9);
    }

    int lasts(int cell) {
        if (!in(cell, 0, 11)) return no(-1);
        int n = now.world.lasts(cell);
        return n == 61 ? -9 : n;
    }

    int fits(int piece, int what) {
        if (!in(piece, 0, now.pieces.size() - 1)) return no(-1);
        if (!in(what, 0, 1)) return no(-2);
        if (now.used.contains(piece)) return no(-3);
        int cell = best(12, c -> now.put(now.world, piece, c).allPull());
        return what == 0 ? cell : now.put(now.world, piece, cell).allPull();
    }

    int bestPiece(int cell) {
        if (!in(cell, 0, 11)) return no(-1);
        List<Integer> free = now.free();
        int i = best(free.size(), k -> -now.put(now.world, free.get(k), cell).lasts(cell));
        return i < 0 ? -9 : free.get(i);
    }

    int mend() {
        int lacking = Integer.bitCount(now.world.holes());
        for (int set = 0; set < 64; set++) {
            boolean fits = Integer.bitCount(set) == lacking;
            for (int piece = 0; piece < 6; piece++) {
                if ((set >> piece & 1) == 1 && !now.free().contains(piece)) fits = false;
            }
            if (fits) return set;
        }
        return -9;
    }

    int keep() {
        List<Integer> free = now.free();
        int i = best(12 * free.size(), k -> -now.put(now.world, free.get(k / 12), k % 12).firstHole());
        if (i < 0) return -9;
        World put = now.put(now.world, free.get(i / 12), i % 12);
        return put.firstHole() > now.world.firstHole() ? 100 * free.get(i / 12) + i % 12 : -9;
    }

    int placed(int piece) {
        if (!in(piece, -1, now.pieces.size() - 1)) return no(-1);
        if (now.free().size() > 3) return no(-3);
        if (now.free().isEmpty() || now.used.contains(piece)) return -9;
        int[][] found = new int[1][];
        int[] least = {Integer.MAX_VALUE};
        place(now.world, now.free(), new int[0], found, least);
        return piece == -1 ? least[0] : found[0][now.free().indexOf(piece)];
    }

    private void place(World on, List<Integer> free, int[] cells, int[][] found, int[] least) {
        if (cells.length == free.size()) {
            if (on.allPull() < least[0]) {
                least[0] = on.allPull();
                found[0] = cells;
            }
            return;
        }
        for (int cell = 0; cell < 12; cell++) {
            int here = cell;
            if (Arrays.stream(cells).anyMatch(c -> c == here)) continue;
            int[] more = Arrays.copyOf(cells, cells.length + 1);
            more[cells.length] = cell;
            place(now.put(on, free.get(cells.length), cell), free, more, found, least);
        }
    }

    int when(int piece, int cell) {
        if (!in(piece, 0, now.pieces.size() - 1) || !in(cell, 0, 11)) return no(-1);
        if (now.used.contains(piece)) return no(-3);
        return best(31, n -> -now.put(now.world.after(n), piece, cell).first(w -> w.cells.get(cell).hole(), n));
    }

    int turns(int what) {
        if (!in(what, 0, 1)) return no(-2);
        if (now.free().size() > 3) return no(-3);
        if (now.free().isEmpty()) return -9;
        return play(now.world, now.free(), new HashSet<>(), true)[what];
    }

    /** The end, and 100 the PIECE and the CELL put first. */
    private int[] play(World on, List<Integer> left, Set<Integer> taken, boolean least) {
        if (left.isEmpty()) return new int[] {on.allPull(), -9};
        int[] best = null;
        for (int piece : left) {
            List<Integer> others = new ArrayList<>(left);
            others.remove((Integer) piece);
            for (int cell = 0; cell < 12; cell++) {
                if (!taken.add(cell)) continue;
                int end = play(now.put(on, piece, cell), others, taken, !least)[0];
                taken.remove(cell);
                if (best == null || (least ? end < best[0] : end > best[0])) best = new int[] {end, 100 * piece + cell};
            }
        }
        return best;
    }

    int whose(int cell, int what) {
        if (!in(cell, 0, 11)) return no(-1);
        if (!in(what, 0, 2)) return no(-2);
        int bits = 0;
        int many = 0;
        for (int v = 0; v < (what == 0 ? 6 : what == 1 ? 10 : 100); v++) {
            World world = other(cell, what, v);
            boolean so = true;
            for (int n = 0; n < row.size() && so; n++) {
                if (world.after(n).cells.get(cell).wear != row.get(n)) so = false;
            }
            if (so && what < 2) bits |= 1 << v;
            if (so) many++;
        }
        return what == 2 ? many : bits;
    }

    private World other(int cell, int what, int v) {
        Cell c = at(cell);
        return now.world.with(cell, Cell.of(what == 0 ? v : c.kind(), what == 1 ? v : c.figure, what == 2 ? v : c.age,
            c.wear));
    }

    int islands(int v, int what) {
        if (v < 0) return no(-4);
        if (v > 99) return no(-6);
        if (!in(what, 0, 1)) return no(-2);
        int[] heap = IntStream.range(0, 12).toArray();
        for (int a = 0; a < 12; a++) {
            for (int b : World.besides(a)) {
                if (Math.abs(at(a).age - at(b).age) > v) continue;
                int from = heap[a];
                int to = heap[b];
                for (int c = 0; c < 12; c++) if (heap[c] == from) heap[c] = to;
            }
        }
        int[] sizes = new int[12];
        for (int h : heap) sizes[h]++;
        return (int) (what == 0 ? Arrays.stream(sizes).filter(s -> s > 0).count() : Arrays.stream(sizes).max().orElse(0));
    }

    int strip(int what) {
        if (!in(what, 0, 1)) return no(-2);
        for (int length = 4; length > 0; length--) {
            for (int start = 0; start < 12; start++) {
                if (start / 4 != (start + length - 1) / 4) continue;
                boolean rises = true;
                for (int cell = start; cell < start + length - 1; cell++) {
                    if (at(cell + 1).age < at(cell).age) rises = false;
                }
                if (rises) return what == 0 ? length : start;
            }
        }
        throw new IllegalStateException();
    }

    int swap() {
        int i = best(144, k -> k / 12 < k % 12 ? swapped(k / 12, k % 12).allPull() : Integer.MAX_VALUE);
        return swapped(i / 12, i % 12).allPull() < now.world.allPull() ? 100 * (i / 12) + i % 12 : -9;
    }

    private World swapped(int a, int b) {
        return now.world.with(a, at(b)).with(b, at(a));
    }

    long chance(int cell, int n, int t, int part) {
        if (!in(cell, 0, 11)) return noLong(-1);
        if (n < 0 || t < 2) return noLong(-4);
        if (n > 8 || t > 20) return noLong(-6);
        if (!in(part, 0, 1)) return noLong(-2);
        BigInteger above = ways(now.world, cell, at(cell).wear, n, t);
        return fraction(above, BigInteger.valueOf(t).pow(n), part);
    }

    private BigInteger ways(World world, int cell, int wear, int n, int t) {
        if (n == 0) return wear >= at(cell).holds() ? BigInteger.ONE : BigInteger.ZERO;
        World next = world.after(1);
        BigInteger spared = ways(next, cell, wear, n - 1, t);
        BigInteger worn = ways(next, cell, Math.min(99, wear + world.wears(cell)), n - 1, t);
        return spared.add(worn.multiply(BigInteger.valueOf(t - 1)));
    }

    private static long fraction(BigInteger above, BigInteger below, int part) {
        BigInteger divisor = above.gcd(below);
        return (part == 0 ? above : below).divide(divisor).longValueExact();
    }

    int oldest(int what) {
        if (!in(what, 0, 1)) return no(-2);
        if (what == 0) return best(12, cell -> -at(cell).age);
        return now.world.cells.stream().map(c -> c.age).sorted().toList().get(5);
    }

    int tightest(int what) {
        if (!in(what, 0, 1)) return no(-2);
        IntUnaryOperator far = k -> World.besides(k / 100).contains(k % 100) && k / 100 < k % 100
            ? Math.abs(at(k / 100).age - at(k % 100).age) : -1;
        int k = best(1200, i -> -far.applyAsInt(i));
        return what == 0 ? k : far.applyAsInt(k);
    }

    int ageFor(int cell) {
        if (!in(cell, 0, 11)) return no(-1);
        return best(100, age -> now.world.with(cell, at(cell).aged(age)).allPull());
    }

    int entire() {
        return World.sum(cell -> now.world.pull(cell) == 0 ? 1 : 0);
    }

    int bestOf(int cell, int what) {
        if (!in(cell, 0, 11)) return no(-1);
        if (!in(what, 0, 1)) return no(-2);
        return best(what == 0 ? 6 : 10, v -> -other(cell, what, v).lasts(cell));
    }

    int harm(int cell) {
        if (!in(cell, 0, 11)) return 1000000000 - no(-1);
        List<Integer> ages = now.world.around(cell).stream().map(c -> c.age).sorted().toList();
        int middle = ages.size() == 3 ? ages.get(1) : ages.get(ages.size() / 2 - 1);
        return now.world.allPull() - now.world.with(cell, at(cell).aged(middle)).allPull();
    }

    int pairs() {
        return World.sum(a -> (int) World.besides(a).stream().filter(b -> at(a).kind() == at(b).kind()).count()) / 2;
    }

    int sumOf(int r) {
        if (!in(r, 0, 2)) return no(-1);
        return World.sum(cell -> cell / 4 == r ? at(cell).age : 0);
    }

    int rank(int i) {
        if (i < 0) return no(-4);
        if (i > 11) return -9;
        return IntStream.range(0, 12).boxed().sorted(Comparator.comparingInt(c -> -at(c).wear)).toList().get(i);
    }

    int doomed(int n) {
        if (n < 0) return no(-4);
        if (n > 60) return no(-6);
        int ever = 0;
        for (int k = 0; k <= n; k++) ever |= now.world.after(k).holes();
        return ever - now.world.holes();
    }

    long mean(int part) {
        if (!in(part, 0, 1)) return noLong(-2);
        return fraction(BigInteger.valueOf(World.sum(cell -> at(cell).age)), BigInteger.valueOf(12), part);
    }

    int younger(int v) {
        if (v < 0) return 1000000000 - no(-4);
        if (v > 99) return 1000000000 - no(-6);
        World older = now.world;
        for (int cell = 0; cell < 12; cell++) older = older.with(cell, at(cell).aged(Math.min(99, at(cell).age + v)));
        return now.world.firstHole() - older.firstHole();
    }

    int unlike() {
        return (int) now.world.cells.stream().map(c -> c.age).distinct().count();
    }

    int row(int v) {
        if (v < 0) return no(-4);
        if (v > 99 || row.size() == 12) return no(-6);
        row.add(v);
        return row.size();
    }

    int judge() {
        List<Integer> told = new ArrayList<>(row);
        row.clear();
        for (int cell = 0; cell < told.size(); cell++) if (at(cell).age != told.get(cell)) return cell;
        return -9;
    }

    int clear() {
        int had = row.size();
        row.clear();
        return had;
    }

    int lots(int n, int z, int what) {
        if (n < 1) return no(-4);
        if (n > 20) return no(-6);
        if (!in(what, 0, 1)) return no(-2);
        BigInteger seed = BigInteger.valueOf(z);
        int sum = 0;
        for (int life = 0; life < n; life++) {
            World world = now.world;
            for (int cell = 0; cell < 12; cell++) {
                seed = seed.multiply(BigInteger.valueOf(1103515245)).add(BigInteger.valueOf(12345));
                int bits = seed.mod(BigInteger.ONE.shiftLeft(31)).intValueExact();
                world = world.with(cell, at(cell).aged((bits >> 16) % 60));
            }
            World end = world.after(20);
            sum += what == 0 ? Integer.bitCount(end.holes()) : World.sum(cell -> end.cells.get(cell).wear);
        }
        return sum;
    }

    int image() {
        image = now.copy();
        return now.world.year;
    }

    int restore() {
        if (image == null) return no(-3);
        now = image.copy();
        past.clear();
        return now.world.year;
    }

    int count(int what) {
        if (in(what, 11, 16)) return refusals[what - 10];
        if (!in(what, 0, 8)) return -9;
        return new int[] {now.pieces.size(), now.world.year, now.world.holes(), World.sum(cell -> at(cell).age),
            World.sum(cell -> at(cell).wear), now.free().size(), letters.length(), row.size(), past.size()}[what];
    }
}
