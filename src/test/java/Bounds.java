import java.lang.reflect.Method;
import java.util.ArrayList;
import java.util.Arrays;
import java.util.Comparator;
import java.util.List;

/** What the tests of boundaries share: each test is a method of its own, and its name is told where an answer is wrong. */
final class Bounds {
    interface Call {
        long on(PatchesSameAge x);
    }

    interface Make {
        PatchesSameAge made();
    }

    /** All that can be seen of an object from one side; what it calls may change the object. */
    private interface Look {
        List<Long> at(PatchesSameAge x);
    }

    static final int LEAST = Integer.MIN_VALUE;
    static final int GREATEST = Integer.MAX_VALUE;
    private static final Look[] LOOKS = {Bounds::present, Bounds::past, Bounds::image, Bounds::rowAndLetters};
    private static final Check CHECK = new Check();
    private static String test = "";

    private Bounds() {
    }

    static void run(Class<?> tests) throws Exception {
        Method[] methods = tests.getDeclaredMethods();
        Arrays.sort(methods, Comparator.comparing(Method::getName));
        int many = 0;
        for (Method method : methods) {
            if (method.getParameterCount() != 0 || method.isSynthetic()) continue;
            method.setAccessible(true);
            test = method.getName();
            method.invoke(null);
            many++;
        }
        System.out.println(many + " tests of their own");
        CHECK.end();
    }

    static void due(String call, long got, long want) {
        CHECK.due(test + ": " + call, got, want);
    }

    /** Answers that are due one behind the other, of one object. */
    static void dues(PatchesSameAge x, long want, Call... calls) {
        for (int i = 0; i < calls.length; i++) due("call " + i, calls[i].on(x), want);
    }

    // ---- objects

    static PatchesSameAge fresh() {
        return new PatchesSameAge();
    }

    static PatchesSameAge told(String text) {
        PatchesSameAge x = fresh();
        due("told: a FAULT", Math.min(0, tell(x, text)), 0);
        return x;
    }

    static int tell(PatchesSameAge x, String text) {
        feedAll(x, text);
        return x.trousers();
    }

    static void feedAll(PatchesSameAge x, String text) {
        for (int i = 0; i < text.length(); i++) x.feed(text.charAt(i));
    }

    /** All CLOTH of these AGES. */
    static PatchesSameAge aged(int... ages) {
        PatchesSameAge x = fresh();
        for (int cell = 0; cell < 12; cell++) x.cell(cell, 0, 0, ages[cell]);
        return x;
    }

    /** CELL 5, that has four BESIDE, is 40 and all else 0: PULL 40 there, 10 at 1, 4, 6, 9. */
    static PatchesSameAge oneOld() {
        PatchesSameAge x = fresh();
        x.cell(5, 0, 0, 40);
        return x;
    }

    /** Another object like a new one, but that so many PIECES are there: CLOTH of FIGURE 0 and AGE 0, none used. */
    static PatchesSameAge pieces(int many) {
        PatchesSameAge x = fresh();
        for (int i = 0; i < many; i++) x.piece(0, 0, 0);
        return x;
    }

    static PatchesSameAge inYear(int year) {
        PatchesSameAge x = fresh();
        for (int i = 0; i < year / 60; i++) x.years(60);
        if (year % 60 != 0) x.years(year % 60);
        due("YEAR", x.count(1), year);
        return x;
    }

    /** 96 letters, 12 numbers in the ROW, 6 PIECES not used, 8 changes that can be TAKEN BACK. */
    static PatchesSameAge full() {
        PatchesSameAge x = pieces(6);
        for (int i = 0; i < 8; i++) x.wears(i, 1);
        for (int i = 0; i < 12; i++) x.row(0);
        feedAll(x, "y01;".repeat(24));
        return x;
    }

    /**
     * Of all something: one REFUSAL of each number, made first, so that what a call that is refused may spoil is not spoilt
     * before; every KIND; five PIECES, 1 and 4 used; an image unlike what is now; five changes that can be TAKEN BACK; a
     * ROW of three, which judge() finds right; letters "y0".
     */
    static PatchesSameAge rich() {
        PatchesSameAge x = richWithoutLetters();
        feedAll(x, "y0");
        return x;
    }

    static PatchesSameAge richWithoutLetters() {
        return madeRich(true);
    }

    static PatchesSameAge richWithoutImage() {
        PatchesSameAge x = madeRich(false);
        feedAll(x, "y0");
        return x;
    }

    static PatchesSameAge richWithoutPast() {
        PatchesSameAge x = richWithoutLetters();
        tell(x, "w0311;");
        feedAll(x, "y0");
        return x;
    }

    /** PIECES 0, 2, 3 and 5 are not used. */
    static PatchesSameAge richOfFourNotUsed() {
        PatchesSameAge x = rich();
        x.piece(3, 3, 3);
        x.wears(9, 9);
        return x;
    }

    private static PatchesSameAge madeRich(boolean withImage) {
        int[] ages = {10, 30, 50, 70, 20, 40, 60, 80, 5, 99, 33, 66};
        PatchesSameAge x = fresh();
        x.cellOf(12, 0);
        x.cellOf(0, 8);
        x.back();
        x.row(-1);
        x.row(100);
        for (int cell = 0; cell < 12; cell++) x.cell(cell, cell % 6, (cell + 1) % 10, ages[cell]);
        int[] kinds = {0, 1, 2, 5, 4};
        for (int i = 0; i < 5; i++) x.piece(kinds[i], i + 2, 10 * i + 5);
        x.puts(1, 6);
        if (withImage) x.image();
        x.wears(3, 7);
        x.years(2);
        x.cell(10, 0, 1, 33);
        x.puts(4, 8);
        for (int cell = 0; cell < 3; cell++) x.row(ages[cell] + 2);
        return x;
    }

    // ---- what is left behind a call

    /** A call that is refused on the rich object: it answers why. */
    static void refused(int why, Call... calls) {
        refused(Bounds::rich, why, why, calls);
    }

    static void refused(Make make, int why, Call... calls) {
        refused(make, why, why, calls);
    }

    /** Whatever is looked at, nothing changed but how many such REFUSALS there were: one more. */
    static void refused(Make make, int why, long answer, Call... calls) {
        for (int i = 0; i < calls.length; i++) {
            for (int look = 0; look < LOOKS.length; look++) {
                PatchesSameAge x = make.made();
                due("call " + i, calls[i].on(x), answer);
                List<Long> want = LOOKS[look].at(make.made());
                if (look == 0) want.set(refusalPlace(want, why), want.get(refusalPlace(want, why)) + 1);
                same("call " + i + " leaves", LOOKS[look].at(x), want);
            }
        }
    }

    /** Calls behind which all is as it was, REFUSALS too. */
    static void leaves(Make make, Call... calls) {
        for (int i = 0; i < calls.length; i++) {
            for (Look look : LOOKS) {
                PatchesSameAge x = make.made();
                calls[i].on(x);
                same("call " + i + " leaves", look.at(x), look.at(make.made()));
            }
        }
    }

    static void asks(Call... calls) {
        leaves(Bounds::rich, calls);
    }

    /** A text with a FAULT: the letters are no more, all else is as it was. */
    static void faulty(String text, int fault) {
        faulty(Bounds::richWithoutLetters, text, fault);
    }

    static void faulty(Make make, String text, int fault) {
        due("FAULT of \"" + text + "\"", tell(make.made(), text), fault);
        leaves(make, x -> tell(x, text));
    }

    private static void same(String what, List<Long> got, List<Long> want) {
        due(what + ", rows", got.size(), want.size());
        for (int i = 0; i < Math.min(got.size(), want.size()); i++) due(what + ", row " + i, got.get(i), want.get(i));
    }

    /** The present tells REFUSALS -1 .. -6 last. */
    private static int refusalPlace(List<Long> present, int why) {
        return present.size() - 7 - why;
    }

    private static List<Long> present(PatchesSameAge x) {
        List<Long> seen = new ArrayList<>();
        addCells(seen, x, 8);
        addPieces(seen, x);
        for (int what = 0; what <= 8; what++) seen.add((long) x.count(what));
        for (int what = 11; what <= 16; what++) seen.add((long) x.count(what));
        return seen;
    }

    /** Some 270 calls at most: with those that made the object they stay below the document's 512. */
    private static List<Long> past(PatchesSameAge x) {
        List<Long> seen = new ArrayList<>();
        for (int i = x.count(8); i >= 0; i--) {
            seen.add((long) x.back());
            for (int cell = 0; cell < 12; cell++) seen.add(100L * x.cellOf(cell, 2) + x.cellOf(cell, 3));
            seen.add((long) x.count(1));
            seen.add((long) x.count(5));
        }
        addCells(seen, x, 2);
        addPieces(seen, x);
        return seen;
    }

    private static List<Long> image(PatchesSameAge x) {
        List<Long> seen = new ArrayList<>();
        seen.add((long) x.restore());
        addCells(seen, x, 4);
        addPieces(seen, x);
        for (int what = 0; what <= 8; what++) seen.add((long) x.count(what));
        return seen;
    }

    private static List<Long> rowAndLetters(PatchesSameAge x) {
        List<Long> seen = new ArrayList<>();
        seen.add((long) x.judge());
        seen.add((long) x.count(7));
        seen.add((long) x.feed('1'));
        seen.add((long) x.feed(';'));
        seen.add((long) x.trousers());
        addCells(seen, x, 4);
        seen.add((long) x.count(1));
        seen.add((long) x.count(6));
        return seen;
    }

    private static void addCells(List<Long> seen, PatchesSameAge x, int whats) {
        for (int cell = 0; cell < 12; cell++) {
            for (int what = 0; what < whats; what++) seen.add((long) x.cellOf(cell, what));
        }
    }

    private static void addPieces(List<Long> seen, PatchesSameAge x) {
        for (int piece = 0; piece < x.count(0); piece++) {
            for (int what = 0; what < 4; what++) seen.add((long) x.pieceOf(piece, what));
        }
    }
}
