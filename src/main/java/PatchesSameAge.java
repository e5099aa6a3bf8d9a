/**
 * Trousers of twelve CELLS that pull, wear and go into holes, and PIECES on a roll to patch them with. Every word in
 * capitals is the document's.
 */
public final class PatchesSameAge {
    private static final int CELLS = 12;
    private static final int COLUMNS = 4;
    private static final int ROWS = 3;
    private static final int SIDES = 4;
    private static final int EVERY_CELL = 4095;
    private static final int NOWHERE = -1;
    /** Of each CELL the ones above, left, right and below. */
    private static final int[] BESIDE = {
        -1, -1, 1, 4, -1, 0, 2, 5, -1, 1, 3, 6, -1, 2, -1, 7,
        0, -1, 5, 8, 1, 4, 6, 9, 2, 5, 7, 10, 3, 6, -1, 11,
        4, -1, 9, -1, 5, 8, 10, -1, 6, 9, 11, -1, 7, 10, -1, -1
    };

    private static final int CLOTH = 0;
    private static final int WOOL = 1;
    private static final int SILK = 2;
    private static final int LINEN = 3;
    private static final int PATCH = 4;
    private static final int CORN = 5;
    private static final int KINDS = 6;
    private static final int FIGURES = 10;
    private static final int AGES = 100;
    private static final int OLDEST_AGE = 99;
    private static final int MOST_WEAR = 99;
    private static final int LAST_YEAR = 999;
    private static final int PIECES = 6;

    private static final int MIND_YEARS = 60;
    private static final int NEVER = 61;
    private static final int PUT_YEARS = 30;
    private static final int BACK_STEPS = 8;
    private static final int ROW_NUMBERS = 12;
    private static final int LETTERS = 96;
    private static final int MOST_LETTER = 255;
    private static final int CHANCE_YEARS = 8;
    private static final int LIVES = 20;
    private static final int LIFE_YEARS = 20;
    private static final int LIFE_AGES = 60;

    private static final int WAY_PIECES = 3;
    private static final int WAYS = 1728;
    private static final int NO_WAY = -1;

    private static final int MOST_INT = 2147483647;
    private static final int NONE = -9;
    private static final int NOBODY = -1;
    private static final int OTHER = -2;
    private static final int STATE = -3;
    private static final int BELOW = -4;
    private static final int ROOM = -6;
    private static final int FORM_FAULT = -1000;
    private static final int SENSE_FAULT = -2000;
    /** Answers that may be below 0 tell a REFUSAL as so much less it. */
    private static final int SIGNED_REFUSAL = 1000000000;
    private static final long LONG_REFUSAL = 4000000000000000000L;

    private final Cloth now = new Cloth();
    private final Roll roll = new Roll();
    private final Past past = new Past();
    private final Text text = new Text();
    private final int[] numbers = new int[ROW_NUMBERS];
    private int numberCount;
    private final int[] refused = new int[7];

    private final Cloth imageCloth = new Cloth();
    private final Roll imageRoll = new Roll();
    private boolean imageTaken;

    /** What is tried in mind is tried on these: made once, so that no call makes anything. */
    private final Cloth mind = new Cloth();
    private final Cloth later = new Cloth();
    private final Roll mindRoll = new Roll();
    private final Ways ways = new Ways();
    private final int[] list = new int[CELLS];

    public PatchesSameAge() {
    }

    // ---- letters

    public int feed(int letter) {
        if (letter < 0) return refuse(BELOW);
        if (letter > MOST_LETTER || text.length >= LETTERS) return refuse(ROOM);
        text.add(letter);
        return text.length;
    }

    public int trousers() {
        int place = text.formFault();
        int answer = place >= 0 ? FORM_FAULT - place : tellAll();
        text.length = 0;
        return answer;
    }

    /** All is told in mind first: with a FAULT nothing of it comes. */
    private int tellAll() {
        mind.become(now);
        mindRoll.become(roll);
        int told = 0;
        for (int at = 0; at < text.length; at += Math.max(1, text.sizeAt(at))) {
            if (!tellOne(at)) return SENSE_FAULT - at;
            told++;
        }
        now.become(mind);
        roll.become(mindRoll);
        past.forget();
        return told;
    }

    private boolean tellOne(int at) {
        switch (text.letterAt(at)) {
            case 'c':
                return tellCells(text.number(at + 1, 2), text.number(at + 3, 2), at + 5);
            case 'r':
                return tellPiece(text.number(at + 1, 1), text.number(at + 2, 1), text.number(at + 3, 2));
            case 'p':
                return tellPut(text.number(at + 1, 1), text.number(at + 2, 2));
            case 'w':
                return tellWear(text.number(at + 1, 2), text.number(at + 3, 2));
            case 'y':
                return tellYears(text.number(at + 1, 2));
            default:
                return false;
        }
    }

    private boolean tellCells(int first, int last, int at) {
        int kind = text.number(at, 1);
        if (!isCell(first) || !isCell(last) || first > last || !isKind(kind)) return false;
        for (int cell = first; cell <= last; cell++) {
            mind.make(cell, kind, text.number(at + 1, 1), text.number(at + 2, 2));
        }
        return true;
    }

    private boolean tellPiece(int kind, int figure, int age) {
        if (!isKind(kind) || mindRoll.size >= PIECES) return false;
        mindRoll.add(kind, figure, age);
        return true;
    }

    private boolean tellPut(int piece, int cell) {
        if (!mindRoll.isFree(piece) || !isCell(cell)) return false;
        mind.put(mindRoll, piece, cell);
        mindRoll.use(piece);
        return true;
    }

    private boolean tellWear(int cell, int wear) {
        if (!isCell(cell)) return false;
        mind.wear[cell] = wear;
        return true;
    }

    private boolean tellYears(int n) {
        if (n < 1 || n > MIND_YEARS || mind.year + n > LAST_YEAR) return false;
        mind.goOn(n);
        return true;
    }

    // ---- what there is, and what changes it

    public int cellOf(int cell, int what) {
        if (!isCell(cell)) return refuse(NOBODY);
        switch (what) {
            case 0:
                return now.kind[cell];
            case 1:
                return now.figure[cell];
            case 2:
                return now.age[cell];
            case 3:
                return now.wear[cell];
            case 4:
                return now.pull(cell);
            case 5:
                return now.wearing(cell);
            case 6:
                return now.hold(cell);
            case 7:
                return now.isHole(cell) ? 1 : 0;
            default:
                return refuse(OTHER);
        }
    }

    public int pieceOf(int piece, int what) {
        if (!roll.has(piece)) return refuse(NOBODY);
        switch (what) {
            case 0:
                return roll.kind[piece];
            case 1:
                return roll.figure[piece];
            case 2:
                return roll.age[piece];
            case 3:
                return roll.isFree(piece) ? 0 : 1;
            default:
                return refuse(OTHER);
        }
    }

    public int piece(int kind, int figure, int age) {
        if (!isKind(kind)) return refuse(OTHER);
        if (figure < 0 || age < 0) return refuse(BELOW);
        if (figure >= FIGURES || age >= AGES || roll.size >= PIECES) return refuse(ROOM);
        roll.add(kind, figure, age);
        past.forget();
        return roll.size - 1;
    }

    public int cell(int cell, int kind, int figure, int age) {
        if (!isCell(cell)) return refuse(NOBODY);
        if (!isKind(kind)) return refuse(OTHER);
        if (figure < 0 || age < 0) return refuse(BELOW);
        if (figure >= FIGURES || age >= AGES) return refuse(ROOM);
        past.note(now, roll);
        int had = now.age[cell];
        now.make(cell, kind, figure, age);
        return had;
    }

    public int puts(int piece, int cell) {
        if (!roll.has(piece) || !isCell(cell)) return refuse(NOBODY);
        if (!roll.isFree(piece)) return refuse(STATE);
        past.note(now, roll);
        now.put(roll, piece, cell);
        roll.use(piece);
        return now.pullTogether();
    }

    public int wears(int cell, int v) {
        if (!isCell(cell)) return refuse(NOBODY);
        if (v < 0) return refuse(BELOW);
        if (v > MOST_WEAR) return refuse(ROOM);
        past.note(now, roll);
        int was = now.wear[cell];
        now.wear[cell] = v;
        return was;
    }

    public int years(int n) {
        if (n < 1) return refuse(BELOW);
        if (n > MIND_YEARS || now.year + n > LAST_YEAR) return refuse(ROOM);
        past.note(now, roll);
        now.goOn(n);
        return Integer.bitCount(now.holeBits());
    }

    public int back() {
        if (past.size == 0) return refuse(STATE);
        past.takeBack(now, roll);
        return past.size;
    }

    // ---- years in mind

    public int behind(int cell, int n, int what) {
        if (!isCell(cell)) return refuse(NOBODY);
        if (n < 0) return refuse(BELOW);
        if (n > MIND_YEARS) return refuse(ROOM);
        if (what < 0 || what > 2) return refuse(OTHER);
        thinkYears(n);
        if (what == 0) return mind.wear[cell];
        if (what == 1) return mind.pull(cell);
        return mind.isHole(cell) ? 1 : 0;
    }

    public int all(int n, int what) {
        if (n < 0) return refuse(BELOW);
        if (n > MIND_YEARS) return refuse(ROOM);
        if (what < 0 || what > 2) return refuse(OTHER);
        thinkYears(n);
        if (what == 0) return Integer.bitCount(mind.holeBits());
        if (what == 1) return mind.wearTogether();
        return mind.pullTogether();
    }

    private void thinkYears(int n) {
        mind.become(now);
        mind.goOn(n);
    }

    public int holes(int what) {
        if (what < 0 || what > 2) return refuse(OTHER);
        if (what == 2) return lastWhole();
        mind.become(now);
        int n = mind.yearsToHole(EVERY_CELL, 0);
        if (n == NEVER) return NONE;
        return what == 0 ? n : least(mind.holeBits());
    }

    private int lastWhole() {
        int best = 0;
        int latest = -1;
        for (int cell = 0; cell < CELLS; cell++) {
            mind.become(now);
            int n = mind.yearsToHole(1 << cell, 0);
            if (n > latest) {
                latest = n;
                best = cell;
            }
        }
        return best;
    }

    public int lasts(int cell) {
        if (!isCell(cell)) return refuse(NOBODY);
        mind.become(now);
        int n = mind.yearsToHole(1 << cell, 0);
        return n == NEVER ? NONE : n;
    }

    public int doomed(int n) {
        if (n < 0) return refuse(BELOW);
        if (n > MIND_YEARS) return refuse(ROOM);
        thinkYears(n);
        return mind.holeBits() & ~now.holeBits();
    }

    public int younger(int v) {
        if (v < 0) return SIGNED_REFUSAL - refuse(BELOW);
        if (v >= AGES) return SIGNED_REFUSAL - refuse(ROOM);
        mind.become(now);
        int asTheyAre = mind.yearsToHole(EVERY_CELL, 0);
        mind.become(now);
        mind.growOlder(v);
        return asTheyAre - mind.yearsToHole(EVERY_CELL, 0);
    }

    // ---- which PIECE, and where

    public int fits(int piece, int what) {
        if (!roll.has(piece)) return refuse(NOBODY);
        if (what < 0 || what > 1) return refuse(OTHER);
        if (!roll.isFree(piece)) return refuse(STATE);
        int best = 0;
        int leastPull = MOST_INT;
        for (int cell = 0; cell < CELLS; cell++) {
            mind.become(now);
            mind.put(roll, piece, cell);
            int pull = mind.pullTogether();
            if (pull < leastPull) {
                leastPull = pull;
                best = cell;
            }
        }
        return what == 0 ? best : leastPull;
    }

    public int bestPiece(int cell) {
        if (!isCell(cell)) return refuse(NOBODY);
        int best = NONE;
        int longest = -1;
        for (int piece = 0; piece < roll.size; piece++) {
            if (!roll.isFree(piece)) continue;
            mind.become(now);
            mind.put(roll, piece, cell);
            int n = mind.yearsToHole(1 << cell, 0);
            if (n > longest) {
                longest = n;
                best = piece;
            }
        }
        return best;
    }

    public int mend() {
        int lacking = Integer.bitCount(now.holeBits());
        int set = 0;
        for (int piece = 0; piece < roll.size && lacking > 0; piece++) {
            if (!roll.isFree(piece)) continue;
            set |= 1 << piece;
            lacking--;
        }
        return lacking > 0 ? NONE : set;
    }

    public int keep() {
        mind.become(now);
        int latest = mind.yearsToHole(EVERY_CELL, 0);
        int best = NONE;
        for (int piece = 0; piece < roll.size; piece++) {
            if (!roll.isFree(piece)) continue;
            for (int cell = 0; cell < CELLS; cell++) {
                mind.become(now);
                mind.put(roll, piece, cell);
                int n = mind.yearsToHole(EVERY_CELL, 0);
                if (n > latest) {
                    latest = n;
                    best = 100 * piece + cell;
                }
            }
        }
        return best;
    }

    public int placed(int piece) {
        if (piece != -1 && !roll.has(piece)) return refuse(NOBODY);
        if (roll.free() > WAY_PIECES) return refuse(STATE);
        if (roll.free() == 0 || (piece >= 0 && !roll.isFree(piece))) return NONE;
        ways.gather(roll);
        ways.reckon(now, roll, mind);
        int best = ways.leastWay();
        return piece == -1 ? ways.pull[best] : ways.cellIn(best, ways.placeOf(piece));
    }

    public int when(int piece, int cell) {
        if (!roll.has(piece) || !isCell(cell)) return refuse(NOBODY);
        if (!roll.isFree(piece)) return refuse(STATE);
        int best = 0;
        int latest = -1;
        later.become(now);
        for (int n = 0; n <= PUT_YEARS; n++) {
            mind.become(later);
            mind.put(roll, piece, cell);
            int hole = mind.yearsToHole(1 << cell, n);
            if (hole > latest) {
                latest = hole;
                best = n;
            }
            later.goOn(1);
        }
        return best;
    }

    public int turns(int what) {
        if (what < 0 || what > 1) return refuse(OTHER);
        if (roll.free() > WAY_PIECES) return refuse(STATE);
        if (roll.free() == 0) return NONE;
        ways.gather(roll);
        ways.reckon(now, roll, mind);
        ways.takeOff();
        int first = 0;
        int leastEnd = MOST_INT;
        for (int i = 0; i < ways.size; i++) {
            for (int cell = 0; cell < CELLS; cell++) {
                ways.at[i] = cell;
                int end = endOf(ways, 1);
                if (end < leastEnd) {
                    leastEnd = end;
                    first = 100 * ways.piece[i] + cell;
                }
            }
            ways.at[i] = NOWHERE;
        }
        return what == 0 ? leastEnd : first;
    }

    /** What all PULL comes to when so many are put and both go on as well as they can; three levels at most. */
    private static int endOf(Ways ways, int put) {
        if (put >= ways.size) return ways.pull[ways.number()];
        boolean wantsLeast = put % 2 == 0;
        int best = wantsLeast ? MOST_INT : -1;
        for (int i = 0; i < ways.size; i++) {
            if (ways.at[i] != NOWHERE) continue;
            for (int cell = 0; cell < CELLS; cell++) {
                if (ways.isTaken(cell)) continue;
                ways.at[i] = cell;
                int end = endOf(ways, put + 1);
                best = wantsLeast ? Math.min(best, end) : Math.max(best, end);
                ways.at[i] = NOWHERE;
            }
        }
        return best;
    }

    public int bestOf(int cell, int what) {
        if (!isCell(cell)) return refuse(NOBODY);
        if (what < 0 || what > 1) return refuse(OTHER);
        int best = 0;
        int longest = -1;
        for (int v = 0; v < (what == 0 ? KINDS : FIGURES); v++) {
            thinkOther(cell, what, v);
            int n = mind.yearsToHole(1 << cell, 0);
            if (n > longest) {
                longest = n;
                best = v;
            }
        }
        return best;
    }

    // ---- the ROW

    public int row(int v) {
        if (v < 0) return refuse(BELOW);
        if (v > 99 || numberCount >= ROW_NUMBERS) return refuse(ROOM);
        numbers[numberCount] = v;
        numberCount++;
        return numberCount;
    }

    public int clear() {
        int had = numberCount;
        numberCount = 0;
        return had;
    }

    public int judge() {
        int wrong = NONE;
        for (int cell = 0; cell < numberCount && wrong == NONE; cell++) {
            if (now.age[cell] != numbers[cell]) wrong = cell;
        }
        numberCount = 0;
        return wrong;
    }

    public int whose(int cell, int what) {
        if (!isCell(cell)) return refuse(NOBODY);
        switch (what) {
            case 0:
                return bitsThatWoreSo(cell, 0, KINDS);
            case 1:
                return bitsThatWoreSo(cell, 1, FIGURES);
            case 2:
                return agesThatWoreSo(cell);
            default:
                return refuse(OTHER);
        }
    }

    private int bitsThatWoreSo(int cell, int what, int most) {
        int bits = 0;
        for (int v = 0; v < most; v++) {
            thinkOther(cell, what, v);
            if (mindWoreSo(cell)) bits |= 1 << v;
        }
        return bits;
    }

    private int agesThatWoreSo(int cell) {
        int many = 0;
        for (int age = 0; age < AGES; age++) {
            thinkOther(cell, 2, age);
            if (mindWoreSo(cell)) many++;
        }
        return many;
    }

    /** In mind a CELL is of another KIND (what 0), FIGURE (1) or AGE (2); all else of it stays, its WEAR too. */
    private void thinkOther(int cell, int what, int v) {
        mind.become(now);
        if (what == 0) {
            mind.kind[cell] = v;
        } else if (what == 1) {
            mind.figure[cell] = v;
        } else {
            mind.age[cell] = v;
        }
    }

    private boolean mindWoreSo(int cell) {
        for (int n = 0; n < numberCount; n++) {
            if (mind.wear[cell] != numbers[n]) return false;
            mind.goOn(1);
        }
        return true;
    }

    // ---- the cloth looked at

    public int islands(int v, int what) {
        if (v < 0) return refuse(BELOW);
        if (v >= AGES) return refuse(ROOM);
        if (what < 0 || what > 1) return refuse(OTHER);
        int heaps = 0;
        int most = 0;
        int seen = 0;
        for (int cell = 0; cell < CELLS; cell++) {
            if ((seen >> cell & 1) == 1) continue;
            int heap = now.heapOf(cell, v);
            seen |= heap;
            heaps++;
            most = Math.max(most, Integer.bitCount(heap));
        }
        return what == 0 ? heaps : most;
    }

    public int strip(int what) {
        if (what < 0 || what > 1) return refuse(OTHER);
        int longest = 0;
        int first = 0;
        for (int cell = 0; cell < CELLS; cell++) {
            int length = now.risingFrom(cell);
            if (length > longest) {
                longest = length;
                first = cell;
            }
        }
        return what == 0 ? longest : first;
    }

    public int swap() {
        int leastPull = now.pullTogether();
        int best = NONE;
        for (int one = 0; one < CELLS; one++) {
            for (int other = one + 1; other < CELLS; other++) {
                mind.become(now);
                mind.change(one, other);
                int pull = mind.pullTogether();
                if (pull < leastPull) {
                    leastPull = pull;
                    best = 100 * one + other;
                }
            }
        }
        return best;
    }

    public int oldest(int what) {
        if (what < 0 || what > 1) return refuse(OTHER);
        if (what == 1) return bySize(now.age, CELLS, 5);
        int best = 0;
        for (int cell = 1; cell < CELLS; cell++) {
            if (now.age[cell] > now.age[best]) best = cell;
        }
        return best;
    }

    public int tightest(int what) {
        if (what < 0 || what > 1) return refuse(OTHER);
        int farthest = -1;
        int best = 0;
        for (int cell = 0; cell < CELLS; cell++) {
            for (int side = 0; side < SIDES; side++) {
                int other = BESIDE[cell * SIDES + side];
                if (other < cell) continue;
                int far = Math.abs(now.age[cell] - now.age[other]);
                if (far > farthest) {
                    farthest = far;
                    best = 100 * cell + other;
                }
            }
        }
        return what == 0 ? best : farthest;
    }

    public int ageFor(int cell) {
        if (!isCell(cell)) return refuse(NOBODY);
        int best = 0;
        int leastPull = MOST_INT;
        for (int age = 0; age < AGES; age++) {
            thinkOther(cell, 2, age);
            int pull = mind.pullTogether();
            if (pull < leastPull) {
                leastPull = pull;
                best = age;
            }
        }
        return best;
    }

    public int entire() {
        int many = 0;
        for (int cell = 0; cell < CELLS; cell++) {
            if (now.pull(cell) == 0) many++;
        }
        return many;
    }

    public int harm(int cell) {
        if (!isCell(cell)) return SIGNED_REFUSAL - refuse(NOBODY);
        int size = 0;
        for (int side = 0; side < SIDES; side++) {
            int other = BESIDE[cell * SIDES + side];
            if (other == NOWHERE) continue;
            list[size] = now.age[other];
            size++;
        }
        thinkOther(cell, 2, bySize(list, size, (size - 1) / 2));
        return now.pullTogether() - mind.pullTogether();
    }

    public int pairs() {
        int many = 0;
        for (int cell = 0; cell < CELLS; cell++) {
            for (int side = 0; side < SIDES; side++) {
                int other = BESIDE[cell * SIDES + side];
                if (other > cell && now.kind[cell] == now.kind[other]) many++;
            }
        }
        return many;
    }

    public int sumOf(int row) {
        if (row < 0 || row >= ROWS) return refuse(NOBODY);
        int sum = 0;
        for (int column = 0; column < COLUMNS; column++) {
            sum += now.age[row * COLUMNS + column];
        }
        return sum;
    }

    public int rank(int i) {
        if (i < 0) return refuse(BELOW);
        for (int cell = 0; cell < CELLS; cell++) {
            if (now.moreWorn(cell) == i) return cell;
        }
        return NONE;
    }

    public int unlike() {
        int many = 0;
        for (int cell = 0; cell < CELLS; cell++) {
            boolean isNew = true;
            for (int ahead = 0; ahead < cell; ahead++) {
                if (now.age[ahead] == now.age[cell]) isNew = false;
            }
            if (isNew) many++;
        }
        return many;
    }

    // ---- chance, lots, fractions

    public long chance(int cell, int n, int t, int part) {
        if (!isCell(cell)) return refuseLong(NOBODY);
        if (n < 0 || t < 2) return refuseLong(BELOW);
        if (n > CHANCE_YEARS || t > 20) return refuseLong(ROOM);
        if (part < 0 || part > 1) return refuseLong(OTHER);
        long every = 1;
        mind.become(now);
        for (int k = 0; k < n; k++) {
            list[k] = mind.wearing(cell);
            mind.goOn(1);
            every *= t;
        }
        return partOf(waysToHole(cell, n, t), every, part);
    }

    /** Of t to the n equal ways of n YEARS, how many make it a HOLE; what it wears in each YEAR is in the list. */
    private long waysToHole(int cell, int n, int t) {
        long sum = 0;
        for (int worn = 0; worn < 1 << n; worn++) {
            int wear = now.wear[cell];
            long many = 1;
            for (int k = 0; k < n; k++) {
                if ((worn >> k & 1) == 0) continue;
                wear += list[k];
                many *= t - 1;
            }
            if (wear >= now.hold(cell)) sum += many;
        }
        return sum;
    }

    public long mean(int part) {
        if (part < 0 || part > 1) return refuseLong(OTHER);
        return partOf(now.ageTogether(), CELLS, part);
    }

    /** Above (part 0) or below (part 1) the line in lowest terms; the one below is 1 or more. */
    private static long partOf(long above, long below, int part) {
        long divisor = below;
        long rest = above;
        for (int i = 0; i < 100 && rest != 0; i++) {
            long next = divisor % rest;
            divisor = rest;
            rest = next;
        }
        if (divisor == 0) return 0;
        return (part == 0 ? above : below) / divisor;
    }

    public int lots(int n, int z, int what) {
        if (n < 1) return refuse(BELOW);
        if (n > LIVES) return refuse(ROOM);
        if (what < 0 || what > 1) return refuse(OTHER);
        int seed = z;
        int sum = 0;
        for (int life = 0; life < n; life++) {
            mind.become(now);
            for (int cell = 0; cell < CELLS; cell++) {
                seed = seed * 1103515245 + 12345;
                mind.age[cell] = (seed & MOST_INT) / 65536 % LIFE_AGES;
            }
            mind.goOn(LIFE_YEARS);
            sum += what == 0 ? Integer.bitCount(mind.holeBits()) : mind.wearTogether();
        }
        return sum;
    }

    // ---- the image, and counts

    public int image() {
        imageCloth.become(now);
        imageRoll.become(roll);
        imageTaken = true;
        return now.year;
    }

    public int restore() {
        if (!imageTaken) return refuse(STATE);
        now.become(imageCloth);
        roll.become(imageRoll);
        past.forget();
        return now.year;
    }

    public int count(int what) {
        if (what >= 11 && what <= 16) return refused[what - 10];
        switch (what) {
            case 0:
                return roll.size;
            case 1:
                return now.year;
            case 2:
                return now.holeBits();
            case 3:
                return now.ageTogether();
            case 4:
                return now.wearTogether();
            case 5:
                return roll.free();
            case 6:
                return text.length;
            case 7:
                return numberCount;
            case 8:
                return past.size;
            default:
                return NONE;
        }
    }

    // ---- what all of it uses

    private int refuse(int why) {
        refused[-why]++;
        return why;
    }

    private long refuseLong(int why) {
        return LONG_REFUSAL - refuse(why);
    }

    private static boolean isCell(int cell) {
        return cell >= 0 && cell < CELLS;
    }

    private static boolean isKind(int kind) {
        return kind >= 0 && kind < KINDS;
    }

    /** The least CELL in bits that have one. */
    private static int least(int bits) {
        for (int cell = 0; cell < CELLS; cell++) {
            if ((bits >> cell & 1) == 1) return cell;
        }
        return NONE;
    }

    /** Of the first so many in a list the one that has i ahead of it, the least first. */
    private static int bySize(int[] sizes, int many, int i) {
        for (int k = 0; k < many; k++) {
            int ahead = 0;
            for (int j = 0; j < many; j++) {
                if (sizes[j] < sizes[k] || (sizes[j] == sizes[k] && j < k)) ahead++;
            }
            if (ahead == i) return sizes[k];
        }
        return 0;
    }

    /** The twelve CELLS and the YEAR. */
    private static final class Cloth {
        private final int[] kind = new int[CELLS];
        private final int[] figure = new int[CELLS];
        private final int[] age = new int[CELLS];
        private final int[] wear = new int[CELLS];
        private int year;

        private void become(Cloth other) {
            System.arraycopy(other.kind, 0, kind, 0, CELLS);
            System.arraycopy(other.figure, 0, figure, 0, CELLS);
            System.arraycopy(other.age, 0, age, 0, CELLS);
            System.arraycopy(other.wear, 0, wear, 0, CELLS);
            year = other.year;
        }

        private void make(int cell, int newKind, int newFigure, int newAge) {
            kind[cell] = newKind;
            figure[cell] = newFigure;
            age[cell] = newAge;
            wear[cell] = 0;
        }

        private void put(Roll roll, int piece, int cell) {
            make(cell, roll.kind[piece], roll.figure[piece], roll.age[piece]);
        }

        private void change(int one, int other) {
            changeIn(kind, one, other);
            changeIn(figure, one, other);
            changeIn(age, one, other);
            changeIn(wear, one, other);
        }

        private static void changeIn(int[] what, int one, int other) {
            int kept = what[one];
            what[one] = what[other];
            what[other] = kept;
        }

        private int pull(int cell) {
            int apart = 0;
            int beside = 0;
            for (int side = 0; side < SIDES; side++) {
                int other = BESIDE[cell * SIDES + side];
                if (other == NOWHERE) continue;
                apart += Math.abs(age[cell] - age[other]);
                beside++;
            }
            int cloth = apart / 4;
            switch (kind[cell]) {
                case WOOL:
                    return cloth / 2;
                case SILK:
                    return cloth + beside;
                case LINEN:
                    return cloth / 2 + figure[cell] / 3;
                case PATCH:
                    return 2 * cloth;
                case CORN:
                    return Math.max(0, 2 * cloth - figure[cell]);
                case CLOTH:
                default:
                    return cloth;
            }
        }

        private int pullTogether() {
            int sum = 0;
            for (int cell = 0; cell < CELLS; cell++) {
                sum += pull(cell);
            }
            return sum;
        }

        /** What a CELL WEARS in the YEAR to come, which is told even or odd by its own number. */
        private int wearing(int cell) {
            int cloth = 1 + pull(cell) / 5;
            switch (kind[cell]) {
                case SILK:
                    return cloth + 1;
                case LINEN:
                    return (year + 1) % 2 == 0 ? 0 : cloth;
                case CORN:
                    return cloth - 1;
                default:
                    return cloth;
            }
        }

        private int hold(int cell) {
            int cloth = 10 + figure[cell];
            switch (kind[cell]) {
                case WOOL:
                case LINEN:
                    return cloth + 5;
                case SILK:
                    return cloth / 2;
                case PATCH:
                    return 5;
                case CORN:
                    return 10;
                default:
                    return cloth;
            }
        }

        private boolean isHole(int cell) {
            return wear[cell] >= hold(cell);
        }

        private int holeBits() {
            int bits = 0;
            for (int cell = 0; cell < CELLS; cell++) {
                if (isHole(cell)) bits |= 1 << cell;
            }
            return bits;
        }

        /** In each YEAR no CELL is older before all have worn: PULL is by the AGES that there were. */
        private void goOn(int years) {
            for (int n = 0; n < years; n++) {
                for (int cell = 0; cell < CELLS; cell++) {
                    wear[cell] = Math.min(MOST_WEAR, wear[cell] + wearing(cell));
                }
                growOlder(1);
                year++;
            }
        }

        private void growOlder(int years) {
            for (int cell = 0; cell < CELLS; cell++) {
                age[cell] = Math.min(OLDEST_AGE, age[cell] + years);
            }
        }

        /**
         * The YEARS, counted from a start that it stands at, behind which first one of these CELLS is a HOLE, NEVER if
         * none is in time; it has gone on to there.
         */
        private int yearsToHole(int cells, int start) {
            for (int n = start; n <= MIND_YEARS; n++) {
                if ((holeBits() & cells) != 0) return n;
                goOn(1);
            }
            return NEVER;
        }

        private int ageTogether() {
            int sum = 0;
            for (int cell = 0; cell < CELLS; cell++) {
                sum += age[cell];
            }
            return sum;
        }

        private int wearTogether() {
            int sum = 0;
            for (int cell = 0; cell < CELLS; cell++) {
                sum += wear[cell];
            }
            return sum;
        }

        /** How many are ahead of a CELL, the most worn first. */
        private int moreWorn(int cell) {
            int ahead = 0;
            for (int other = 0; other < CELLS; other++) {
                if (wear[other] > wear[cell] || (wear[other] == wear[cell] && other < cell)) ahead++;
            }
            return ahead;
        }

        /** How many CELLS of its row, from a CELL to the right, have AGES that do not fall. */
        private int risingFrom(int cell) {
            int length = 1;
            for (int next = cell + 1; next < CELLS && next % COLUMNS != 0; next++) {
                if (age[next] < age[next - 1]) return length;
                length++;
            }
            return length;
        }

        /** The CELLS (bits) that hang together with a CELL; each round reaches one CELL farther. */
        private int heapOf(int start, int v) {
            int heap = 1 << start;
            for (int round = 0; round < CELLS; round++) {
                for (int cell = 0; cell < CELLS; cell++) {
                    if ((heap >> cell & 1) == 1) heap |= hangingOn(cell, v);
                }
            }
            return heap;
        }

        private int hangingOn(int cell, int v) {
            int bits = 0;
            for (int side = 0; side < SIDES; side++) {
                int other = BESIDE[cell * SIDES + side];
                if (other != NOWHERE && Math.abs(age[cell] - age[other]) <= v) bits |= 1 << other;
            }
            return bits;
        }
    }

    /** THE ROLL: its PIECES, and which are used (bits). */
    private static final class Roll {
        private final int[] kind = new int[PIECES];
        private final int[] figure = new int[PIECES];
        private final int[] age = new int[PIECES];
        private int size;
        private int used;

        private void become(Roll other) {
            System.arraycopy(other.kind, 0, kind, 0, PIECES);
            System.arraycopy(other.figure, 0, figure, 0, PIECES);
            System.arraycopy(other.age, 0, age, 0, PIECES);
            size = other.size;
            used = other.used;
        }

        private void add(int newKind, int newFigure, int newAge) {
            if (size >= PIECES) return;
            kind[size] = newKind;
            figure[size] = newFigure;
            age[size] = newAge;
            size++;
        }

        private boolean has(int piece) {
            return piece >= 0 && piece < size;
        }

        private boolean isFree(int piece) {
            return has(piece) && (used >> piece & 1) == 0;
        }

        private void use(int piece) {
            used |= 1 << piece;
        }

        private int free() {
            return size - Integer.bitCount(used);
        }
    }

    /**
     * What can be TAKEN BACK, the latest ahead of next. Of the ROLL it keeps what is used alone: what changes more of
     * it leaves nothing to take back.
     */
    private static final class Past {
        private final Cloth[] cloth = new Cloth[BACK_STEPS];
        private final int[] used = new int[BACK_STEPS];
        private int next;
        private int size;

        private Past() {
            for (int i = 0; i < BACK_STEPS; i++) {
                cloth[i] = new Cloth();
            }
        }

        private void note(Cloth now, Roll roll) {
            cloth[next].become(now);
            used[next] = roll.used;
            next = (next + 1) % BACK_STEPS;
            size = Math.min(BACK_STEPS, size + 1);
        }

        private void takeBack(Cloth now, Roll roll) {
            if (size == 0) return;
            next = (next + BACK_STEPS - 1) % BACK_STEPS;
            now.become(cloth[next]);
            roll.used = used[next];
            size--;
        }

        private void forget() {
            size = 0;
        }
    }

    /** The letters that have come, read as STATEMENTS: a letter, its digits, ";". */
    private static final class Text {
        private final int[] letter = new int[LETTERS];
        private int length;

        private void add(int newLetter) {
            if (length >= LETTERS) return;
            letter[length] = newLetter;
            length++;
        }

        /** The letter at a place; at the end none, told as below 0. */
        private int letterAt(int at) {
            return at >= 0 && at < length ? letter[at] : -1;
        }

        /** How many letters the STATEMENT that begins at a place has; 0 if none begins with such a letter. */
        private int sizeAt(int at) {
            switch (letterAt(at)) {
                case 'c':
                    return 10;
                case 'r':
                case 'w':
                    return 6;
                case 'p':
                    return 5;
                case 'y':
                    return 4;
                default:
                    return 0;
            }
        }

        /** The place of a FAULT of kind 1; -1 without. */
        private int formFault() {
            if (length == 0) return 0;
            int at = 0;
            for (int statement = 0; statement < LETTERS && at < length; statement++) {
                int end = at + sizeAt(at) - 1;
                if (end < at) return at;
                for (int place = at + 1; place < end; place++) {
                    if (!isDigit(letterAt(place))) return place;
                }
                if (letterAt(end) != ';') return end;
                at = end + 1;
            }
            return -1;
        }

        private static boolean isDigit(int letter) {
            return letter >= '0' && letter <= '9';
        }

        private int number(int at, int digits) {
            int number = 0;
            for (int place = at; place < at + digits; place++) {
                number = 10 * number + letterAt(place) - '0';
            }
            return number;
        }
    }

    /**
     * All ways of putting the PIECES not used (three at most) on unlike CELLS. A way's number has a digit to the base
     * of CELLS for each PIECE, so that the least number is the first way.
     */
    private static final class Ways {
        private final int[] piece = new int[WAY_PIECES];
        private final int[] at = new int[WAY_PIECES];
        private final int[] pull = new int[WAYS];
        private int size;

        private void gather(Roll roll) {
            size = 0;
            for (int number = 0; number < roll.size && size < WAY_PIECES; number++) {
                if (!roll.isFree(number)) continue;
                piece[size] = number;
                size++;
            }
        }

        private int placeOf(int number) {
            for (int i = 0; i < size; i++) {
                if (piece[i] == number) return i;
            }
            return 0;
        }

        private int many() {
            int many = 1;
            for (int i = 0; i < size; i++) {
                many *= CELLS;
            }
            return many;
        }

        private int cellIn(int way, int i) {
            int rest = way;
            for (int behind = size - 1; behind > i; behind--) {
                rest /= CELLS;
            }
            return rest % CELLS;
        }

        private void reckon(Cloth now, Roll roll, Cloth mind) {
            for (int way = 0; way < many(); way++) {
                takeOff();
                mind.become(now);
                boolean unlikeCells = true;
                for (int i = 0; i < size; i++) {
                    int cell = cellIn(way, i);
                    if (isTaken(cell)) unlikeCells = false;
                    at[i] = cell;
                    mind.put(roll, piece[i], cell);
                }
                pull[way] = unlikeCells ? mind.pullTogether() : NO_WAY;
            }
        }

        private int leastWay() {
            int best = NO_WAY;
            for (int way = 0; way < many(); way++) {
                if (pull[way] == NO_WAY) continue;
                if (best == NO_WAY || pull[way] < pull[best]) best = way;
            }
            return Math.max(0, best);
        }

        private void takeOff() {
            for (int i = 0; i < WAY_PIECES; i++) {
                at[i] = NOWHERE;
            }
        }

        private boolean isTaken(int cell) {
            for (int i = 0; i < size; i++) {
                if (at[i] == cell) return true;
            }
            return false;
        }

        /** The number of the way that at tells. */
        private int number() {
            int number = 0;
            for (int i = 0; i < size; i++) {
                number = number * CELLS + Math.max(0, at[i]);
            }
            return number;
        }
    }
}
