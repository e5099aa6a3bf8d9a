import java.lang.reflect.Method;

/** The boundaries that promises 1 to 47 name: each test is named after its promise. */
public final class PromiseBoundsTest {
    private static final int LEAST = Bounds.LEAST;
    private static final int GREATEST = Bounds.GREATEST;
    private static final long LONG_REFUSAL = 4000000000000000000L;

    public static void main(String[] args) throws Exception {
        for (int promise = 1; promise <= 47; promise++) hasTest(promise);
        Bounds.run(PromiseBoundsTest.class);
    }

    private static void hasTest(int promise) {
        int many = 0;
        for (Method method : PromiseBoundsTest.class.getDeclaredMethods()) {
            if (method.getName().matches("promise" + promise + "[A-Z].*")) many++;
        }
        due("promise " + promise + " has tests", Math.min(many, 1), 1);
    }

    private static void due(String call, long got, long want) {
        Bounds.due(call, got, want);
    }

    private static void refused(int why, Bounds.Call... calls) {
        Bounds.refused(why, calls);
    }

    private static void refusedOf(Bounds.Make make, int why, Bounds.Call... calls) {
        Bounds.refused(make, why, calls);
    }

    private static void refusedLong(int why, Bounds.Call... calls) {
        Bounds.refused(Bounds::rich, why, LONG_REFUSAL - why, calls);
    }

    private static void refusedSigned(int why, Bounds.Call... calls) {
        Bounds.refused(Bounds::rich, why, 1000000000 - why, calls);
    }

    private static void asks(Bounds.Call... calls) {
        Bounds.asks(calls);
    }

    private static PatchesSameAge fresh() {
        return Bounds.fresh();
    }

    private static PatchesSameAge told(String text) {
        return Bounds.told(text);
    }

    // ---- Promise 1: a new object

    private static void promise1NewAllClothOfAge0() {
        PatchesSameAge x = fresh();
        int[] want = {0, 0, 0, 0, 0, 1, 10, 0};
        for (int cell = 0; cell < 12; cell++) {
            for (int what = 0; what < 8; what++) due("cellOf(" + cell + ", " + what + ")", x.cellOf(cell, what), want[what]);
        }
    }

    private static void promise1NewNoPieces() {
        PatchesSameAge x = fresh();
        due("pieceOf(0, 0)", x.pieceOf(0, 0), -1);
        due("count(0)", x.count(0), 0);
        due("the first is 0", x.piece(0, 0, 0), 0);
    }

    private static void promise1NewNothingElse() {
        PatchesSameAge x = fresh();
        for (int what = 0; what <= 8; what++) due("count(" + what + ")", x.count(what), 0);
        for (int what = 11; what <= 16; what++) due("count(" + what + ")", x.count(what), 0);
    }

    private static void promise1NewIsOneOfItsOwn() {
        PatchesSameAge x = Bounds.full();
        PatchesSameAge y = fresh();
        x.image();
        due("AGE", y.cellOf(0, 2), 0);
        for (int what = 0; what <= 8; what++) due("count(" + what + ")", y.count(what), 0);
        due("restore", y.restore(), -3);
    }

    // ---- Promise 2: feed

    private static void promise2FeedTheLeast() {
        due("feed(0)", fresh().feed(0), 1);
    }

    private static void promise2FeedTheGreatest() {
        due("feed(255)", fresh().feed(255), 1);
    }

    private static void promise2FeedBelow() {
        refused(-4, x -> x.feed(-1), x -> x.feed(LEAST));
    }

    private static void promise2FeedAbove() {
        refused(-6, x -> x.feed(256), x -> x.feed(GREATEST));
    }

    private static void promise2FeedThe96th() {
        PatchesSameAge x = fresh();
        for (int i = 1; i <= 96; i++) due("feed", x.feed(59), i);
        due("letters", x.count(6), 96);
    }

    private static void promise2FeedThe97th() {
        refusedOf(Bounds::full, -6, x -> x.feed(0), x -> x.feed(255), x -> x.feed(256));
        due("the 96 are as they were", Bounds.full().trousers(), 24);
    }

    private static void promise2FeedBelowAheadOfRoom() {
        refusedOf(Bounds::full, -4, x -> x.feed(-1));
    }

    private static void promise2FeedRoomAgainBehindTrousers() {
        PatchesSameAge x = Bounds.full();
        x.trousers();
        due("feed", x.feed(255), 1);
    }

    // ---- Promise 3: trousers

    private static void promise3TrousersLettersAreNoMore() {
        PatchesSameAge x = told("y01;");
        due("letters", x.count(6), 0);
        due("once", x.count(1), 1);
        due("nothing is left of them", x.trousers(), -1000);
    }

    private static void promise3TrousersLettersAreNoMoreWithAFormFault() {
        PatchesSameAge x = fresh();
        due("FAULT", Bounds.tell(x, "y0"), -1002);
        due("letters", x.count(6), 0);
        due("nothing is left of them", Bounds.tell(x, "1;"), -1000);
    }

    private static void promise3TrousersLettersAreNoMoreWithAnotherFault() {
        PatchesSameAge x = fresh();
        due("FAULT", Bounds.tell(x, "y00;"), -2000);
        due("letters", x.count(6), 0);
        due("nothing is left of them", x.trousers(), -1000);
    }

    private static void promise3TrousersHowManyStatements() {
        due("one", Bounds.tell(fresh(), "r0000;"), 1);
        due("two", Bounds.tell(fresh(), "r0000;p000;"), 2);
        due("24, by 96 letters", Bounds.tell(fresh(), "y01;".repeat(24)), 24);
    }

    private static void promise3TrousersFaultsAreNotCounted() {
        PatchesSameAge x = fresh();
        Bounds.tell(x, "");
        Bounds.tell(x, "q");
        Bounds.tell(x, "p000;");
        Bounds.tell(x, "c12120000;");
        Bounds.tell(x, "c00006000;");
        Bounds.tell(x, "y00;");
        for (int what = 11; what <= 16; what++) due("count(" + what + ")", x.count(what), 0);
    }

    // ---- Promise 4: cellOf

    private static void promise4CellOfTheFirstAndTheLastCell() {
        PatchesSameAge x = told("c00002307;c11115908;");
        due("KIND of 0", x.cellOf(0, 0), 2);
        due("AGE of 0", x.cellOf(0, 2), 7);
        due("KIND of 11", x.cellOf(11, 0), 5);
        due("AGE of 11", x.cellOf(11, 2), 8);
        asks(y -> y.cellOf(0, 0), y -> y.cellOf(11, 4));
    }

    private static void promise4CellOfTheFirstAndTheLastWhat() {
        PatchesSameAge x = told("c05054300;w0505;");
        due("what 0", x.cellOf(5, 0), 4);
        due("what 7", x.cellOf(5, 7), 1);
        asks(y -> y.cellOf(5, 5), y -> y.cellOf(5, 7));
    }

    private static void promise4CellOfNobody() {
        refused(-1, x -> x.cellOf(-1, 0), x -> x.cellOf(12, 7), x -> x.cellOf(LEAST, 0), x -> x.cellOf(GREATEST, 0));
    }

    private static void promise4CellOfOther() {
        refused(-2, x -> x.cellOf(0, -1), x -> x.cellOf(11, 8), x -> x.cellOf(0, LEAST), x -> x.cellOf(0, GREATEST));
    }

    private static void promise4CellOfNobodyAheadOfOther() {
        refused(-1, x -> x.cellOf(-1, -1), x -> x.cellOf(12, 8));
    }

    // ---- Promise 5: pieceOf

    private static void promise5PieceOfTheFirstAndTheLastPiece() {
        PatchesSameAge x = told("r0102;r0000;r0000;r0000;r0000;r5987;");
        due("FIGURE of 0", x.pieceOf(0, 1), 1);
        due("AGE of 0", x.pieceOf(0, 2), 2);
        due("KIND of 5", x.pieceOf(5, 0), 5);
        due("FIGURE of 5", x.pieceOf(5, 1), 9);
        due("AGE of 5", x.pieceOf(5, 2), 87);
    }

    private static void promise5PieceOfTheFirstAndTheLastWhat() {
        PatchesSameAge x = told("r3000;p000;");
        due("what 0", x.pieceOf(0, 0), 3);
        due("what 3", x.pieceOf(0, 3), 1);
        asks(y -> y.pieceOf(0, 0), y -> y.pieceOf(4, 3));
    }

    private static void promise5PieceOfNobodyOfNone() {
        refusedOf(Bounds::fresh, -1, x -> x.pieceOf(0, 0));
    }

    private static void promise5PieceOfNobody() {
        refused(-1, x -> x.pieceOf(-1, 0), x -> x.pieceOf(5, 0), x -> x.pieceOf(6, 0), x -> x.pieceOf(LEAST, 0),
            x -> x.pieceOf(GREATEST, 3));
        refusedOf(Bounds::full, -1, x -> x.pieceOf(6, 0));
    }

    private static void promise5PieceOfOther() {
        refused(-2, x -> x.pieceOf(0, -1), x -> x.pieceOf(4, 4), x -> x.pieceOf(0, LEAST), x -> x.pieceOf(0, GREATEST));
    }

    private static void promise5PieceOfNobodyAheadOfOther() {
        refused(-1, x -> x.pieceOf(-1, -1), x -> x.pieceOf(5, 4));
    }

    // ---- Promise 6: piece

    private static void promise6PieceOfTheLeast() {
        PatchesSameAge x = fresh();
        due("piece(0, 0, 0)", x.piece(0, 0, 0), 0);
        for (int what = 0; what < 4; what++) due("pieceOf(0, " + what + ")", x.pieceOf(0, what), 0);
    }

    private static void promise6PieceOfTheGreatest() {
        PatchesSameAge x = fresh();
        due("piece(5, 9, 99)", x.piece(5, 9, 99), 0);
        due("KIND", x.pieceOf(0, 0), 5);
        due("FIGURE", x.pieceOf(0, 1), 9);
        due("AGE", x.pieceOf(0, 2), 99);
    }

    private static void promise6PieceOther() {
        refused(-2, x -> x.piece(-1, 0, 0), x -> x.piece(6, 0, 0), x -> x.piece(LEAST, 0, 0), x -> x.piece(GREATEST, 0, 0));
    }

    private static void promise6PieceBelowEither() {
        refused(-4, x -> x.piece(0, -1, 0), x -> x.piece(0, 0, -1), x -> x.piece(0, LEAST, 0), x -> x.piece(0, 0, LEAST));
    }

    private static void promise6PieceAboveEither() {
        refused(-6, x -> x.piece(0, 10, 0), x -> x.piece(0, 0, 100), x -> x.piece(0, GREATEST, 0),
            x -> x.piece(0, 0, GREATEST));
    }

    private static void promise6PieceTheSixth() {
        PatchesSameAge x = Bounds.pieces(5);
        due("the sixth", x.piece(1, 2, 3), 5);
        due("PIECES", x.count(0), 6);
    }

    private static void promise6PieceTheSeventh() {
        refusedOf(Bounds::full, -6, x -> x.piece(0, 0, 0), x -> x.piece(5, 9, 99));
    }

    private static void promise6PieceTheSeventhThoughAllAreUsed() {
        PatchesSameAge x = Bounds.pieces(6);
        for (int i = 0; i < 6; i++) x.puts(i, i);
        due("the seventh", x.piece(0, 0, 0), -6);
        due("to take back", x.count(8), 6);
    }

    private static void promise6PieceOtherAheadOfBelowAndRoom() {
        refused(-2, x -> x.piece(6, -1, 0), x -> x.piece(-1, 0, -1), x -> x.piece(6, 10, 0), x -> x.piece(-1, 0, 100));
        refusedOf(Bounds::full, -2, x -> x.piece(6, 0, 0));
    }

    private static void promise6PieceBelowAheadOfRoom() {
        refused(-4, x -> x.piece(0, -1, 100), x -> x.piece(0, 10, -1));
        refusedOf(Bounds::full, -4, x -> x.piece(0, -1, 0), x -> x.piece(0, 0, -1));
    }

    // ---- Promise 7: cell

    private static void promise7CellOfTheLeast() {
        PatchesSameAge x = told("c00005930;w0050;");
        due("the AGE it had", x.cell(0, 0, 0, 0), 30);
        for (int what = 0; what < 4; what++) due("cellOf(0, " + what + ")", x.cellOf(0, what), 0);
    }

    private static void promise7CellOfTheGreatest() {
        PatchesSameAge x = told("w1150;");
        due("the AGE it had", x.cell(11, 5, 9, 99), 0);
        int[] want = {5, 9, 99, 0};
        for (int what = 0; what < 4; what++) due("cellOf(11, " + what + ")", x.cellOf(11, what), want[what]);
        due("the AGE it had", x.cell(11, 0, 0, 0), 99);
    }

    private static void promise7CellNobody() {
        refused(-1, x -> x.cell(-1, 0, 0, 0), x -> x.cell(12, 0, 0, 0), x -> x.cell(LEAST, 0, 0, 0),
            x -> x.cell(GREATEST, 0, 0, 0));
    }

    private static void promise7CellOther() {
        refused(-2, x -> x.cell(0, -1, 0, 0), x -> x.cell(0, 6, 0, 0), x -> x.cell(0, LEAST, 0, 0),
            x -> x.cell(0, GREATEST, 0, 0));
    }

    private static void promise7CellBelowEither() {
        refused(-4, x -> x.cell(0, 0, -1, 0), x -> x.cell(0, 0, 0, -1), x -> x.cell(0, 0, LEAST, 0),
            x -> x.cell(0, 0, 0, LEAST));
    }

    private static void promise7CellAboveEither() {
        refused(-6, x -> x.cell(0, 0, 10, 0), x -> x.cell(0, 0, 0, 100), x -> x.cell(0, 0, GREATEST, 0),
            x -> x.cell(0, 0, 0, GREATEST));
    }

    private static void promise7CellNobodyAheadOfAll() {
        refused(-1, x -> x.cell(12, 6, 0, 0), x -> x.cell(-1, 0, -1, 0), x -> x.cell(12, 0, 0, -1),
            x -> x.cell(-1, 0, 10, 0), x -> x.cell(12, 0, 0, 100));
    }

    private static void promise7CellOtherAheadOfBelowAndRoom() {
        refused(-2, x -> x.cell(0, 6, -1, 0), x -> x.cell(0, -1, 0, -1), x -> x.cell(0, 6, 10, 0),
            x -> x.cell(0, -1, 0, 100));
    }

    private static void promise7CellBelowAheadOfRoom() {
        refused(-4, x -> x.cell(0, 0, -1, 100), x -> x.cell(0, 0, 10, -1));
    }

    // ---- Promise 8: puts

    private static void promise8PutsTheFirstAndTheLast() {
        PatchesSameAge x = told("r0004;r0000;r0000;r0000;r0000;r0004;");
        // 4 apart from two BESIDE: PULL 2 there, 1 at each
        due("puts(0, 0)", x.puts(0, 0), 4);
        due("puts(5, 11)", x.puts(5, 11), 8);
        due("used", x.count(5), 4);
    }

    private static void promise8PutsNobodyEither() {
        refused(-1, x -> x.puts(-1, 0), x -> x.puts(5, 0), x -> x.puts(0, -1), x -> x.puts(0, 12), x -> x.puts(LEAST, 0),
            x -> x.puts(GREATEST, 0), x -> x.puts(0, LEAST), x -> x.puts(0, GREATEST));
        refusedOf(Bounds::full, -1, x -> x.puts(6, 0));
        refusedOf(Bounds::fresh, -1, x -> x.puts(0, 0));
    }

    private static void promise8PutsUsed() {
        refused(-3, x -> x.puts(1, 6), x -> x.puts(4, 0));
    }

    private static void promise8PutsNobodyAheadOfUsed() {
        refused(-1, x -> x.puts(1, -1), x -> x.puts(4, 12));
    }

    private static void promise8PutsAgainWhenTakenBack() {
        PatchesSameAge x = told("r0000;");
        x.puts(0, 3);
        x.back();
        due("puts", x.puts(0, 3), 0);
    }

    // ---- Promise 9: wears

    private static void promise9WearsTheLeastAndTheGreatest() {
        PatchesSameAge x = fresh();
        due("wears(0, 99)", x.wears(0, 99), 0);
        due("wears(0, 0)", x.wears(0, 0), 99);
        due("wears(11, 99)", x.wears(11, 99), 0);
        due("WEAR of 0", x.cellOf(0, 3), 0);
        due("WEAR of 11", x.cellOf(11, 3), 99);
    }

    private static void promise9WearsNobody() {
        refused(-1, x -> x.wears(-1, 0), x -> x.wears(12, 0), x -> x.wears(LEAST, 0), x -> x.wears(GREATEST, 0));
    }

    private static void promise9WearsBelow() {
        refused(-4, x -> x.wears(0, -1), x -> x.wears(11, LEAST));
    }

    private static void promise9WearsAbove() {
        refused(-6, x -> x.wears(0, 100), x -> x.wears(11, GREATEST));
    }

    private static void promise9WearsNobodyAheadOfBelowAndAbove() {
        refused(-1, x -> x.wears(-1, -1), x -> x.wears(12, 100));
    }

    // ---- Promise 10: years

    private static void promise10YearsTheLeast() {
        PatchesSameAge x = fresh();
        due("years(1)", x.years(1), 0);
        due("YEAR", x.count(1), 1);
    }

    private static void promise10YearsTheMost() {
        PatchesSameAge x = fresh();
        due("years(60)", x.years(60), 12);
        due("YEAR", x.count(1), 60);
    }

    private static void promise10YearsBelow() {
        refused(-4, x -> x.years(0), x -> x.years(-1), x -> x.years(LEAST));
    }

    private static void promise10YearsAbove() {
        refused(-6, x -> x.years(61), x -> x.years(GREATEST));
    }

    private static void promise10YearsUpTo999() {
        PatchesSameAge x = Bounds.inYear(939);
        due("years(60)", x.years(60), 12);
        due("YEAR", x.count(1), 999);
        PatchesSameAge y = Bounds.inYear(998);
        due("years(1)", y.years(1), 12);
        due("YEAR", y.count(1), 999);
    }

    private static void promise10YearsAbove999() {
        refusedOf(() -> Bounds.inYear(940), -6, x -> x.years(60));
        refusedOf(() -> Bounds.inYear(998), -6, x -> x.years(2));
        refusedOf(() -> Bounds.inYear(999), -6, x -> x.years(1), x -> x.years(60), x -> x.years(GREATEST));
    }

    private static void promise10YearsBelowIn999() {
        refusedOf(() -> Bounds.inYear(999), -4, x -> x.years(0), x -> x.years(LEAST));
    }

    // ---- Promise 11: back

    private static void promise11BackNone() {
        refusedOf(Bounds::fresh, -3, x -> x.back());
        refusedOf(Bounds::richWithoutPast, -3, x -> x.back());
        refusedOf(() -> told("c00115999;r0000;"), -3, x -> x.back());
    }

    private static void promise11BackOfOneAndOfEight() {
        PatchesSameAge x = fresh();
        x.wears(0, 1);
        due("of one", x.back(), 0);
        for (int i = 1; i <= 8; i++) x.wears(0, i);
        for (int i = 7; i >= 0; i--) {
            due("of " + (i + 1), x.back(), i);
            due("WEAR", x.cellOf(0, 3), i);
        }
        due("of none", x.back(), -3);
        due("WEAR", x.cellOf(0, 3), 0);
    }

    private static void promise11BackOfEightBehindOneRefused() {
        for (int before = 0; before < 8; before++) {
            PatchesSameAge x = fresh();
            for (int i = 0; i < before; i++) x.wears(1, i);
            x.piece(0, 0, 0);
            due("of none", x.back(), -3);
            for (int i = 1; i <= 9; i++) x.wears(0, i);
            for (int i = 8; i >= 1; i--) {
                due("back", x.back(), i - 1);
                due("WEAR", x.cellOf(0, 3), i);
            }
            due("of none", x.back(), -3);
        }
    }

    // ---- Promise 12: behind

    private static void promise12BehindNoYearsAndSixty() {
        PatchesSameAge x = told("w0503;w1109;");
        due("behind(5, 0, 0)", x.behind(5, 0, 0), 3);
        due("behind(5, 60, 0)", x.behind(5, 60, 0), 63);
        due("behind(11, 0, 2)", x.behind(11, 0, 2), 0);
        due("behind(11, 1, 2)", x.behind(11, 1, 2), 1);
        due("behind(0, 9, 2)", x.behind(0, 9, 2), 0);
        due("behind(0, 10, 2)", x.behind(0, 10, 2), 1);
    }

    private static void promise12BehindChangesNothing() {
        asks(x -> x.behind(0, 60, 0), x -> x.behind(11, 60, 1), x -> x.behind(5, 0, 2));
    }

    private static void promise12BehindNobody() {
        refused(-1, x -> x.behind(-1, 0, 0), x -> x.behind(12, 0, 0), x -> x.behind(LEAST, 0, 0),
            x -> x.behind(GREATEST, 0, 0));
    }

    private static void promise12BehindBelow() {
        refused(-4, x -> x.behind(0, -1, 0), x -> x.behind(0, LEAST, 0));
    }

    private static void promise12BehindAbove() {
        refused(-6, x -> x.behind(0, 61, 0), x -> x.behind(0, GREATEST, 0));
    }

    private static void promise12BehindOther() {
        refused(-2, x -> x.behind(0, 0, -1), x -> x.behind(0, 60, 3), x -> x.behind(0, 0, LEAST),
            x -> x.behind(0, 0, GREATEST));
    }

    private static void promise12BehindNobodyAheadOfAll() {
        refused(-1, x -> x.behind(12, -1, 0), x -> x.behind(-1, 61, 0), x -> x.behind(12, 0, 3));
    }

    private static void promise12BehindBelowAndAboveAheadOfOther() {
        refused(-4, x -> x.behind(0, -1, 3));
        refused(-6, x -> x.behind(0, 61, -1));
    }

    // ---- Promise 13: all

    private static void promise13AllNoYearsAndSixty() {
        PatchesSameAge x = told("w0010;w1110;");
        due("all(0, 0)", x.all(0, 0), 2);
        due("all(0, 1)", x.all(0, 1), 20);
        due("all(60, 0)", x.all(60, 0), 12);
        due("all(60, 1)", x.all(60, 1), 20 + 12 * 60);
        // 40 apart from four: 40 there, 10 at each; behind 60 YEARS 99 and 60: 39, 9 at each
        due("all(0, 2)", Bounds.oneOld().all(0, 2), 80);
        due("all(60, 2)", Bounds.oneOld().all(60, 2), 39 + 4 * 9);
    }

    private static void promise13AllChangesNothing() {
        asks(x -> x.all(60, 0), x -> x.all(60, 1), x -> x.all(60, 2));
    }

    private static void promise13AllBelow() {
        refused(-4, x -> x.all(-1, 0), x -> x.all(LEAST, 0));
    }

    private static void promise13AllAbove() {
        refused(-6, x -> x.all(61, 0), x -> x.all(GREATEST, 0));
    }

    private static void promise13AllOther() {
        refused(-2, x -> x.all(0, -1), x -> x.all(60, 3), x -> x.all(0, LEAST), x -> x.all(0, GREATEST));
    }

    private static void promise13AllBelowAndAboveAheadOfOther() {
        refused(-4, x -> x.all(-1, 3));
        refused(-6, x -> x.all(61, -1));
    }

    // ---- Promise 14: holes

    private static void promise14HolesEachWhat() {
        PatchesSameAge x = told("c03030900;w0709;");
        due("what 0", x.holes(0), 1);
        due("what 1", x.holes(1), 7);
        due("what 2", x.holes(2), 3);
        asks(y -> y.holes(0), y -> y.holes(1), y -> y.holes(2));
    }

    private static void promise14HolesNever() {
        PatchesSameAge x = told("c00115000;");
        due("what 0", x.holes(0), -9);
        due("what 1", x.holes(1), -9);
        due("what 2", x.holes(2), 0);
        Bounds.leaves(() -> told("c00115000;"), y -> y.holes(0), y -> y.holes(1));
    }

    private static void promise14HolesOther() {
        refused(-2, x -> x.holes(-1), x -> x.holes(3), x -> x.holes(LEAST), x -> x.holes(GREATEST));
    }

    // ---- Promise 15: lasts

    private static void promise15LastsOfTheFirstAndTheLastCell() {
        PatchesSameAge x = told("w0004;w1107;");
        due("lasts(0)", x.lasts(0), 6);
        due("lasts(11)", x.lasts(11), 3);
        asks(y -> y.lasts(0), y -> y.lasts(11));
    }

    private static void promise15LastsNever() {
        due("lasts(0)", told("c00115000;").lasts(0), -9);
        Bounds.leaves(() -> told("c00115000;"), y -> y.lasts(0));
    }

    private static void promise15LastsNobody() {
        refused(-1, x -> x.lasts(-1), x -> x.lasts(12), x -> x.lasts(LEAST), x -> x.lasts(GREATEST));
    }

    // ---- Promise 16: fits

    private static void promise16FitsTheFirstAndTheLastPiece() {
        PatchesSameAge x = told("c11110040;r0004;r0000;r0000;r0000;r0000;r0000;");
        due("fits(5, 0)", x.fits(5, 0), 11);
        due("fits(5, 1)", x.fits(5, 1), 0);
        // 4 in a corner: 2 there, 1 at each of two
        due("fits(0, 0)", x.fits(0, 0), 11);
        due("fits(0, 1)", x.fits(0, 1), 4);
        asks(y -> y.fits(0, 0), y -> y.fits(3, 1));
    }

    private static void promise16FitsNobody() {
        refused(-1, x -> x.fits(-1, 0), x -> x.fits(5, 0), x -> x.fits(LEAST, 0), x -> x.fits(GREATEST, 0));
        refusedOf(Bounds::fresh, -1, x -> x.fits(0, 0));
        refusedOf(Bounds::full, -1, x -> x.fits(6, 0));
    }

    private static void promise16FitsOther() {
        refused(-2, x -> x.fits(0, -1), x -> x.fits(0, 2), x -> x.fits(0, LEAST), x -> x.fits(0, GREATEST));
    }

    private static void promise16FitsUsed() {
        refused(-3, x -> x.fits(1, 0), x -> x.fits(4, 1));
    }

    private static void promise16FitsNobodyAheadOfOther() {
        refused(-1, x -> x.fits(-1, -1), x -> x.fits(5, 2));
    }

    private static void promise16FitsOtherAheadOfUsed() {
        refused(-2, x -> x.fits(1, -1), x -> x.fits(4, 2));
    }

    // ---- Promise 17: bestPiece

    private static void promise17BestPieceForTheFirstAndTheLastCell() {
        PatchesSameAge x = told("r0000;r0900;");
        due("bestPiece(0)", x.bestPiece(0), 1);
        due("bestPiece(11)", x.bestPiece(11), 1);
        asks(y -> y.bestPiece(0), y -> y.bestPiece(11));
    }

    private static void promise17BestPieceNone() {
        due("no PIECES", fresh().bestPiece(0), -9);
        due("all used", told("r0000;p000;").bestPiece(0), -9);
        Bounds.leaves(Bounds::fresh, x -> x.bestPiece(0));
    }

    private static void promise17BestPieceNobody() {
        refused(-1, x -> x.bestPiece(-1), x -> x.bestPiece(12), x -> x.bestPiece(LEAST), x -> x.bestPiece(GREATEST));
    }

    private static void promise17BestPieceNobodyAheadOfNone() {
        refusedOf(Bounds::fresh, -1, x -> x.bestPiece(-1), x -> x.bestPiece(12));
    }

    // ---- Promise 18: mend

    private static void promise18MendNoHoles() {
        due("no PIECES", fresh().mend(), 0);
        due("six PIECES", Bounds.pieces(6).mend(), 0);
    }

    private static void promise18MendAsMany() {
        PatchesSameAge x = Bounds.pieces(6);
        int[] sets = {1, 3, 7, 15, 31, 63};
        for (int i = 0; i < 6; i++) {
            x.wears(11 - i, 10);
            due("HOLES " + (i + 1), x.mend(), sets[i]);
        }
    }

    private static void promise18MendFewer() {
        due("one HOLE, no PIECES", told("w0010;").mend(), -9);
        PatchesSameAge x = Bounds.pieces(6);
        for (int i = 0; i < 7; i++) x.wears(i, 10);
        due("seven HOLES, six PIECES", x.mend(), -9);
        Bounds.leaves(() -> told("w0010;"), y -> y.mend());
    }

    private static void promise18MendNotUsed() {
        PatchesSameAge x = Bounds.pieces(6);
        x.puts(0, 0);
        x.puts(2, 0);
        x.wears(0, 10);
        x.wears(1, 10);
        due("1 and 3", x.mend(), 2 + 8);
        x.puts(1, 2);
        x.puts(3, 2);
        due("4 and 5", x.mend(), 16 + 32);
        x.puts(4, 2);
        due("one for two", x.mend(), -9);
        asks(y -> y.mend());
    }

    // ---- Promise 19: keep

    private static void promise19KeepTheFirstAndTheLast() {
        due("PIECE 0, CELL 0", told("w0009;r0000;").keep(), 0);
        PatchesSameAge x = told("r0000;r0000;r0000;r0000;r0000;r0000;");
        for (int i = 0; i < 5; i++) x.puts(i, 0);
        x.wears(11, 9);
        due("PIECE 5, CELL 11", x.keep(), 511);
        asks(y -> y.keep());
    }

    private static void promise19KeepNone() {
        due("no PIECES", told("w0009;").keep(), -9);
        due("all used", told("r0000;p000;w0009;").keep(), -9);
        Bounds.leaves(Bounds::fresh, x -> x.keep());
    }

    // ---- Promise 20: placed

    private static void promise20PlacedOfAllAndOfEach() {
        PatchesSameAge x = told("c09110040;r0000;r0000;r0000;");
        due("placed(-1)", x.placed(-1), 0);
        due("placed(0)", x.placed(0), 9);
        due("placed(1)", x.placed(1), 10);
        due("placed(2)", x.placed(2), 11);
        asks(y -> y.placed(-1), y -> y.placed(3));
    }

    private static void promise20PlacedNobody() {
        refused(-1, x -> x.placed(-2), x -> x.placed(5), x -> x.placed(LEAST), x -> x.placed(GREATEST));
        refusedOf(Bounds::fresh, -1, x -> x.placed(0), x -> x.placed(-2));
    }

    private static void promise20PlacedMoreThanThree() {
        refusedOf(() -> Bounds.pieces(4), -3, x -> x.placed(-1), x -> x.placed(0), x -> x.placed(3));
        refusedOf(Bounds::richOfFourNotUsed, -3, x -> x.placed(-1), x -> x.placed(5));
        refusedOf(Bounds::full, -3, x -> x.placed(-1), x -> x.placed(5));
    }

    private static void promise20PlacedNobodyAheadOfMoreThanThree() {
        refusedOf(() -> Bounds.pieces(4), -1, x -> x.placed(-2), x -> x.placed(4));
        refusedOf(Bounds::full, -1, x -> x.placed(6));
    }

    private static void promise20PlacedMoreThanThreeAheadOfUsed() {
        PatchesSameAge x = Bounds.pieces(5);
        x.puts(2, 0);
        due("placed(2), four others", x.placed(2), -3);
        x.puts(0, 0);
        due("placed(2), three others", x.placed(2), -9);
        due("placed(0), three others", x.placed(0), -9);
    }

    private static void promise20PlacedNone() {
        due("placed(-1), no PIECES", fresh().placed(-1), -9);
        PatchesSameAge x = told("r0000;p000;");
        due("placed(-1), all used", x.placed(-1), -9);
        due("placed(0), used", x.placed(0), -9);
        Bounds.leaves(Bounds::fresh, y -> y.placed(-1));
        asks(y -> y.placed(1), y -> y.placed(4));
    }

    // ---- Promise 21: when

    private static void promise21WhenTheFirstAndTheLast() {
        PatchesSameAge x = Bounds.pieces(5);
        x.piece(0, 0, 30);
        // as old as all else behind 30 YEARS: it wears 1 a YEAR from then on, more in YEARS before and behind
        due("when(5, 11)", x.when(5, 11), 30);
        due("when(5, 0)", x.when(5, 0), 30);
        due("CORN that is as old as all now", told("r5000;").when(0, 0), 0);
        asks(y -> y.when(0, 0), y -> y.when(3, 11));
    }

    private static void promise21WhenNobodyEither() {
        refused(-1, x -> x.when(-1, 0), x -> x.when(5, 0), x -> x.when(0, -1), x -> x.when(0, 12), x -> x.when(LEAST, 0),
            x -> x.when(GREATEST, 0), x -> x.when(0, LEAST), x -> x.when(0, GREATEST));
        refusedOf(Bounds::fresh, -1, x -> x.when(0, 0));
        refusedOf(Bounds::full, -1, x -> x.when(6, 0));
    }

    private static void promise21WhenUsed() {
        refused(-3, x -> x.when(1, 0), x -> x.when(4, 11));
    }

    private static void promise21WhenNobodyAheadOfUsed() {
        refused(-1, x -> x.when(1, -1), x -> x.when(4, 12));
    }

    // ---- Promise 22: turns

    private static void promise22TurnsEachWhat() {
        PatchesSameAge x = told("c11110040;r0000;p000;r0000;");
        due("what 0", x.turns(0), 0);
        due("what 1", x.turns(1), 111);
        asks(y -> y.turns(0), y -> y.turns(1));
    }

    private static void promise22TurnsOther() {
        refused(-2, x -> x.turns(-1), x -> x.turns(2), x -> x.turns(LEAST), x -> x.turns(GREATEST));
    }

    private static void promise22TurnsOfThree() {
        PatchesSameAge x = Bounds.pieces(3);
        due("what 0", x.turns(0), 0);
        due("what 1", x.turns(1), 0);
    }

    private static void promise22TurnsMoreThanThree() {
        refusedOf(() -> Bounds.pieces(4), -3, x -> x.turns(0), x -> x.turns(1));
        refusedOf(Bounds::richOfFourNotUsed, -3, x -> x.turns(0), x -> x.turns(1));
        refusedOf(Bounds::full, -3, x -> x.turns(0), x -> x.turns(1));
    }

    private static void promise22TurnsOtherAheadOfMoreThanThree() {
        refusedOf(() -> Bounds.pieces(4), -2, x -> x.turns(-1), x -> x.turns(2));
    }

    private static void promise22TurnsOtherAheadOfNone() {
        refusedOf(Bounds::fresh, -2, x -> x.turns(-1), x -> x.turns(2));
    }

    private static void promise22TurnsNone() {
        due("what 0, no PIECES", fresh().turns(0), -9);
        due("what 1, no PIECES", fresh().turns(1), -9);
        due("what 0, all used", told("r0000;p000;").turns(0), -9);
        due("what 1, all used", told("r0000;p000;").turns(1), -9);
        Bounds.leaves(Bounds::fresh, x -> x.turns(0), x -> x.turns(1));
    }

    // ---- Promise 23: whose

    private static void promise23WhoseOfAnEmptyRow() {
        PatchesSameAge x = fresh();
        due("KINDS", x.whose(0, 0), 63);
        due("FIGURES", x.whose(11, 1), 1023);
        due("AGES", x.whose(0, 2), 100);
    }

    private static void promise23WhoseTheRowStays() {
        asks(x -> x.whose(0, 0), x -> x.whose(11, 1), x -> x.whose(5, 2));
    }

    private static void promise23WhoseNobody() {
        refused(-1, x -> x.whose(-1, 0), x -> x.whose(12, 0), x -> x.whose(LEAST, 0), x -> x.whose(GREATEST, 0));
    }

    private static void promise23WhoseOther() {
        refused(-2, x -> x.whose(0, -1), x -> x.whose(11, 3), x -> x.whose(0, LEAST), x -> x.whose(0, GREATEST));
    }

    private static void promise23WhoseNobodyAheadOfOther() {
        refused(-1, x -> x.whose(-1, -1), x -> x.whose(12, 3));
    }

    // ---- Promise 24: islands

    private static void promise24IslandsTheLeastAndTheGreatest() {
        PatchesSameAge x = Bounds.aged(0, 99, 0, 99, 99, 0, 99, 0, 0, 99, 0, 99);
        due("islands(0, 0)", x.islands(0, 0), 12);
        due("islands(0, 1)", x.islands(0, 1), 1);
        due("islands(98, 0)", x.islands(98, 0), 12);
        due("islands(99, 0)", x.islands(99, 0), 1);
        due("islands(99, 1)", x.islands(99, 1), 12);
        asks(y -> y.islands(0, 0), y -> y.islands(99, 1));
    }

    private static void promise24IslandsBelow() {
        refused(-4, x -> x.islands(-1, 0), x -> x.islands(LEAST, 0));
    }

    private static void promise24IslandsAbove() {
        refused(-6, x -> x.islands(100, 0), x -> x.islands(GREATEST, 0));
    }

    private static void promise24IslandsOther() {
        refused(-2, x -> x.islands(0, -1), x -> x.islands(99, 2), x -> x.islands(0, LEAST), x -> x.islands(0, GREATEST));
    }

    private static void promise24IslandsBelowAndAboveAheadOfOther() {
        refused(-4, x -> x.islands(-1, 2));
        refused(-6, x -> x.islands(100, -1));
    }

    // ---- Promise 25: strip

    private static void promise25StripEachWhat() {
        PatchesSameAge x = Bounds.aged(3, 2, 1, 0, 3, 2, 1, 0, 3, 2, 3, 4);
        due("what 0", x.strip(0), 3);
        due("what 1", x.strip(1), 9);
        asks(y -> y.strip(0), y -> y.strip(1));
    }

    private static void promise25StripOther() {
        refused(-2, x -> x.strip(-1), x -> x.strip(2), x -> x.strip(LEAST), x -> x.strip(GREATEST));
    }

    // ---- Promise 26: swap

    private static void promise26SwapNone() {
        due("all alike", fresh().swap(), -9);
        Bounds.leaves(Bounds::fresh, x -> x.swap());
    }

    private static void promise26SwapChangesNothing() {
        asks(x -> x.swap());
    }

    // ---- Promise 27: chance

    private static void promise27ChanceTheLeastYears() {
        PatchesSameAge x = told("w0509;w0610;");
        due("none in no YEARS: above", x.chance(5, 0, 2, 0), 0);
        due("none in no YEARS: below", x.chance(5, 0, 2, 1), 1);
        due("a HOLE now: above", x.chance(6, 0, 20, 0), 1);
        due("a HOLE now: below", x.chance(6, 0, 20, 1), 1);
    }

    private static void promise27ChanceTheMostYears() {
        PatchesSameAge x = told("w0002;");
        // it needs each of eight YEARS: 1 in 256; by odds of 1 in 20 to be spared 19 to the 8 in 20 to the 8
        due("above", x.chance(0, 8, 2, 0), 1);
        due("below", x.chance(0, 8, 2, 1), 256);
        due("above", x.chance(0, 8, 20, 0), 16983563041L);
        due("below", x.chance(0, 8, 20, 1), 25600000000L);
        due("seven are too few: above", x.chance(0, 7, 20, 0), 0);
    }

    private static void promise27ChanceOfTheFirstAndTheLastCell() {
        PatchesSameAge x = told("w0009;w1109;");
        due("above", x.chance(0, 1, 2, 0), 1);
        due("below", x.chance(0, 1, 2, 1), 2);
        due("above", x.chance(11, 1, 20, 0), 19);
        due("below", x.chance(11, 1, 20, 1), 20);
        asks(y -> y.chance(0, 8, 20, 0), y -> y.chance(11, 8, 20, 1));
    }

    private static void promise27ChanceNobody() {
        refusedLong(-1, x -> x.chance(-1, 0, 2, 0), x -> x.chance(12, 0, 2, 0), x -> x.chance(LEAST, 0, 2, 0),
            x -> x.chance(GREATEST, 0, 2, 0));
    }

    private static void promise27ChanceBelowEither() {
        refusedLong(-4, x -> x.chance(0, -1, 2, 0), x -> x.chance(0, 0, 1, 0), x -> x.chance(0, 0, 0, 0),
            x -> x.chance(0, LEAST, 2, 0), x -> x.chance(0, 0, LEAST, 0));
    }

    private static void promise27ChanceAboveEither() {
        refusedLong(-6, x -> x.chance(0, 9, 2, 0), x -> x.chance(0, 0, 21, 0), x -> x.chance(0, GREATEST, 2, 0),
            x -> x.chance(0, 0, GREATEST, 0));
    }

    private static void promise27ChanceOther() {
        refusedLong(-2, x -> x.chance(0, 0, 2, -1), x -> x.chance(0, 8, 20, 2), x -> x.chance(0, 0, 2, LEAST),
            x -> x.chance(0, 0, 2, GREATEST));
    }

    private static void promise27ChanceNobodyAheadOfAll() {
        refusedLong(-1, x -> x.chance(12, -1, 2, 0), x -> x.chance(-1, 0, 1, 0), x -> x.chance(12, 9, 2, 0),
            x -> x.chance(-1, 0, 21, 0), x -> x.chance(12, 0, 2, 2));
    }

    private static void promise27ChanceBelowAheadOfAbove() {
        refusedLong(-4, x -> x.chance(0, -1, 21, 0), x -> x.chance(0, 9, 1, 0));
    }

    private static void promise27ChanceBelowAndAboveAheadOfOther() {
        refusedLong(-4, x -> x.chance(0, -1, 2, 2), x -> x.chance(0, 0, 1, -1));
        refusedLong(-6, x -> x.chance(0, 9, 2, 2), x -> x.chance(0, 0, 21, -1));
    }

    // ---- Promise 28: oldest

    private static void promise28OldestEachWhat() {
        PatchesSameAge x = Bounds.aged(1, 2, 3, 4, 5, 6, 7, 8, 9, 10, 11, 12);
        due("what 0", x.oldest(0), 11);
        due("what 1", x.oldest(1), 6);
        asks(y -> y.oldest(0), y -> y.oldest(1));
    }

    private static void promise28OldestOther() {
        refused(-2, x -> x.oldest(-1), x -> x.oldest(2), x -> x.oldest(LEAST), x -> x.oldest(GREATEST));
    }

    // ---- Promise 29: tightest

    private static void promise29TightestEachWhat() {
        PatchesSameAge x = told("c11110099;");
        due("what 0", x.tightest(0), 711);
        due("what 1", x.tightest(1), 99);
        asks(y -> y.tightest(0), y -> y.tightest(1));
    }

    private static void promise29TightestOther() {
        refused(-2, x -> x.tightest(-1), x -> x.tightest(2), x -> x.tightest(LEAST), x -> x.tightest(GREATEST));
    }

    // ---- Promise 30: ageFor

    private static void promise30AgeForTheFirstAndTheLastCell() {
        PatchesSameAge x = told("c01010020;c04040020;c07070030;c10100030;");
        due("ageFor(0)", x.ageFor(0), 19);
        due("ageFor(11)", x.ageFor(11), 29);
        asks(y -> y.ageFor(0), y -> y.ageFor(11));
    }

    private static void promise30AgeForNobody() {
        refused(-1, x -> x.ageFor(-1), x -> x.ageFor(12), x -> x.ageFor(LEAST), x -> x.ageFor(GREATEST));
    }

    // ---- Promise 31: entire

    private static void promise31EntireAllAndNone() {
        due("all", fresh().entire(), 12);
        due("none", Bounds.aged(0, 9, 0, 9, 9, 0, 9, 0, 0, 9, 0, 9).entire(), 0);
        asks(x -> x.entire());
    }

    // ---- Promise 32: bestOf

    private static void promise32BestOfTheFirstAndTheLast() {
        PatchesSameAge x = fresh();
        due("the last KIND", x.bestOf(0, 0), 5);
        due("the last FIGURE", x.bestOf(0, 1), 9);
        x.wears(11, 24);
        due("the first KIND", x.bestOf(11, 0), 0);
        due("the first FIGURE", x.bestOf(11, 1), 0);
        asks(y -> y.bestOf(0, 0), y -> y.bestOf(11, 1));
    }

    private static void promise32BestOfNobody() {
        refused(-1, x -> x.bestOf(-1, 0), x -> x.bestOf(12, 0), x -> x.bestOf(LEAST, 0), x -> x.bestOf(GREATEST, 0));
    }

    private static void promise32BestOfOther() {
        refused(-2, x -> x.bestOf(0, -1), x -> x.bestOf(11, 2), x -> x.bestOf(0, LEAST), x -> x.bestOf(0, GREATEST));
    }

    private static void promise32BestOfNobodyAheadOfOther() {
        refused(-1, x -> x.bestOf(-1, -1), x -> x.bestOf(12, 2));
    }

    // ---- Promise 33: harm

    private static void promise33HarmOfTheFirstAndTheLastCell() {
        PatchesSameAge x = told("c00000008;c11110016;");
        // 8: 4 there, 2 at each of two; 16: 8 there, 4 at each
        due("harm(0)", x.harm(0), 8);
        due("harm(11)", x.harm(11), 16);
        asks(y -> y.harm(0), y -> y.harm(11));
    }

    private static void promise33HarmNobody() {
        refusedSigned(-1, x -> x.harm(-1), x -> x.harm(12), x -> x.harm(LEAST), x -> x.harm(GREATEST));
    }

    // ---- Promise 34: pairs

    private static void promise34PairsAllAndNone() {
        due("all", fresh().pairs(), 17);
        PatchesSameAge x = fresh();
        int[] kinds = {0, 1, 0, 1, 1, 0, 1, 0, 0, 1, 0, 1};
        for (int cell = 0; cell < 12; cell++) x.cell(cell, kinds[cell], 0, 0);
        due("none", x.pairs(), 0);
        asks(y -> y.pairs());
    }

    // ---- Promise 35: sumOf

    private static void promise35SumOfTheFirstAndTheLastRow() {
        PatchesSameAge x = Bounds.aged(1, 2, 3, 4, 10, 20, 30, 40, 99, 99, 99, 99);
        due("sumOf(0)", x.sumOf(0), 10);
        due("sumOf(1)", x.sumOf(1), 100);
        due("sumOf(2)", x.sumOf(2), 396);
        asks(y -> y.sumOf(0), y -> y.sumOf(2));
    }

    private static void promise35SumOfNoSuchRow() {
        refused(-1, x -> x.sumOf(-1), x -> x.sumOf(3), x -> x.sumOf(LEAST), x -> x.sumOf(GREATEST));
    }

    // ---- Promise 36: rank

    private static void promise36RankTheFirstAndTheLast() {
        PatchesSameAge x = told("w0602;w1102;");
        due("rank(0)", x.rank(0), 6);
        due("rank(1)", x.rank(1), 11);
        due("rank(2)", x.rank(2), 0);
        due("rank(11)", x.rank(11), 10);
        asks(y -> y.rank(0), y -> y.rank(11));
    }

    private static void promise36RankNone() {
        due("rank(12)", fresh().rank(12), -9);
        due("rank(greatest)", fresh().rank(GREATEST), -9);
        asks(x -> x.rank(12), x -> x.rank(GREATEST));
    }

    private static void promise36RankBelow() {
        refused(-4, x -> x.rank(-1), x -> x.rank(LEAST));
    }

    // ---- Promise 37: doomed

    private static void promise37DoomedNoYearsAndSixty() {
        PatchesSameAge x = told("c00003900;w0510;w1109;");
        due("doomed(0)", x.doomed(0), 0);
        due("doomed(1)", x.doomed(1), 1 << 11);
        due("doomed(60): all but one that is", x.doomed(60), 4095 - 32);
        asks(y -> y.doomed(0), y -> y.doomed(60));
    }

    private static void promise37DoomedBelow() {
        refused(-4, x -> x.doomed(-1), x -> x.doomed(LEAST));
    }

    private static void promise37DoomedAbove() {
        refused(-6, x -> x.doomed(61), x -> x.doomed(GREATEST));
    }

    // ---- Promise 38: mean

    private static void promise38MeanEachPart() {
        PatchesSameAge x = told("c00000010;");
        due("above", x.mean(0), 5);
        due("below", x.mean(1), 6);
        asks(y -> y.mean(0), y -> y.mean(1));
    }

    private static void promise38MeanOther() {
        refusedLong(-2, x -> x.mean(-1), x -> x.mean(2), x -> x.mean(LEAST), x -> x.mean(GREATEST));
    }

    // ---- Promise 39: younger

    private static void promise39YoungerTheLeastAndTheGreatest() {
        PatchesSameAge x = Bounds.oneOld();
        due("younger(0)", x.younger(0), 0);
        // all are 99 then: no PULL, 1 a YEAR, a HOLE behind 10; now 9 a YEAR, behind 2
        due("younger(99)", x.younger(99), 2 - 10);
        asks(y -> y.younger(0), y -> y.younger(99));
    }

    private static void promise39YoungerBelow() {
        refusedSigned(-4, x -> x.younger(-1), x -> x.younger(LEAST));
    }

    private static void promise39YoungerAbove() {
        refusedSigned(-6, x -> x.younger(100), x -> x.younger(GREATEST));
    }

    // ---- Promise 40: unlike

    private static void promise40UnlikeOneAndTwelve() {
        due("one", fresh().unlike(), 1);
        due("twelve", Bounds.aged(0, 99, 1, 98, 2, 97, 3, 96, 4, 95, 5, 94).unlike(), 12);
        due("the first and the last are of one AGE", Bounds.aged(9, 1, 2, 3, 4, 5, 6, 7, 8, 10, 11, 9).unlike(), 11);
        asks(x -> x.unlike());
    }

    // ---- Promise 41: row

    private static void promise41RowTheLeastAndTheGreatest() {
        PatchesSameAge x = fresh();
        due("row(0)", x.row(0), 1);
        due("row(99)", x.row(99), 2);
        x.cell(1, 0, 0, 99);
        due("they are so", x.judge(), -9);
    }

    private static void promise41RowBelow() {
        refused(-4, x -> x.row(-1), x -> x.row(LEAST));
    }

    private static void promise41RowAbove() {
        refused(-6, x -> x.row(100), x -> x.row(GREATEST));
    }

    private static void promise41RowTheTwelfth() {
        PatchesSameAge x = fresh();
        for (int i = 1; i <= 12; i++) due("row", x.row(0), i);
    }

    private static void promise41RowTheThirteenth() {
        refusedOf(Bounds::full, -6, x -> x.row(0), x -> x.row(99), x -> x.row(100));
    }

    private static void promise41RowBelowAheadOfRoom() {
        refusedOf(Bounds::full, -4, x -> x.row(-1));
    }

    // ---- Promise 42: judge

    private static void promise42JudgeAnEmptyRow() {
        due("judge", fresh().judge(), -9);
        Bounds.leaves(Bounds::fresh, x -> x.judge());
    }

    private static void promise42JudgeAFullRow() {
        PatchesSameAge x = Bounds.aged(1, 2, 3, 4, 5, 6, 7, 8, 9, 10, 11, 12);
        for (int age = 1; age <= 12; age++) x.row(age);
        due("all are so", x.judge(), -9);
        due("the ROW has none then", x.count(7), 0);
        for (int age = 1; age <= 11; age++) x.row(age);
        x.row(11);
        due("the last is not", x.judge(), 11);
        due("the ROW has none then", x.count(7), 0);
        x.row(2);
        for (int age = 2; age <= 12; age++) x.row(13);
        due("the first is not", x.judge(), 0);
        due("the ROW has none then", x.count(7), 0);
        due("a new ROW", x.row(1), 1);
    }

    private static void promise42JudgeLooksAtAsManyAsThereAre() {
        PatchesSameAge x = told("c02020005;");
        x.row(0);
        x.row(0);
        due("the third is not told", x.judge(), -9);
    }

    // ---- Promise 43: clear

    private static void promise43ClearNoneAndTwelve() {
        due("none", fresh().clear(), 0);
        Bounds.leaves(Bounds::fresh, x -> x.clear());
        PatchesSameAge x = Bounds.full();
        due("twelve", x.clear(), 12);
        due("none then", x.count(7), 0);
        due("none then", x.clear(), 0);
        due("room again", x.row(5), 1);
    }

    // ---- Promise 44: lots

    private static void promise44LotsOneAndTwenty() {
        // CLOTH wears 1 a YEAR at least and holds 10: all are HOLES behind 20
        PatchesSameAge x = fresh();
        due("lots(1, 0, 0)", x.lots(1, 0, 0), 12);
        due("lots(20, 0, 0)", x.lots(20, 0, 0), 240);
        asks(y -> y.lots(20, 7, 0), y -> y.lots(1, 7, 1));
    }

    private static void promise44LotsBelow() {
        refused(-4, x -> x.lots(0, 0, 0), x -> x.lots(-1, 0, 0), x -> x.lots(LEAST, 0, 0));
    }

    private static void promise44LotsAbove() {
        refused(-6, x -> x.lots(21, 0, 0), x -> x.lots(GREATEST, 0, 0));
    }

    private static void promise44LotsOther() {
        refused(-2, x -> x.lots(1, 0, -1), x -> x.lots(20, 0, 2), x -> x.lots(1, 0, LEAST), x -> x.lots(1, 0, GREATEST));
    }

    private static void promise44LotsBelowAndAboveAheadOfOther() {
        refused(-4, x -> x.lots(0, 0, 2));
        refused(-6, x -> x.lots(21, 0, -1));
    }

    // ---- Promise 45: image

    private static void promise45ImageOfTheFirstAndTheLastYear() {
        due("YEAR 0", fresh().image(), 0);
        due("YEAR 999", Bounds.inYear(999).image(), 999);
    }

    private static void promise45ImageAnotherInsteadOfTheFirst() {
        PatchesSameAge x = fresh();
        x.image();
        x.years(3);
        due("image", x.image(), 3);
        x.years(4);
        due("restore", x.restore(), 3);
    }

    // ---- Promise 46: restore

    private static void promise46RestoreNone() {
        refusedOf(Bounds::fresh, -3, x -> x.restore());
        refusedOf(Bounds::full, -3, x -> x.restore());
        refusedOf(Bounds::richWithoutImage, -3, x -> x.restore());
    }

    private static void promise46RestoreAgain() {
        PatchesSameAge x = Bounds.inYear(999);
        x.image();
        due("restore", x.restore(), 999);
        x.cell(0, 1, 1, 1);
        due("again", x.restore(), 999);
        due("AGE", x.cellOf(0, 2), 99);
    }

    // ---- Promise 47: count

    private static void promise47CountOfAFullOne() {
        PatchesSameAge x = Bounds.full();
        int[] want = {6, 0, 0, 0, 8, 6, 96, 12, 8};
        for (int what = 0; what <= 8; what++) due("count(" + what + ")", x.count(what), want[what]);
    }

    private static void promise47CountTheGreatest() {
        PatchesSameAge x = Bounds.inYear(999);
        int[] want = {0, 999, 4095, 12 * 99, 12 * 99, 0, 0, 0, 8};
        for (int what = 0; what <= 8; what++) due("count(" + what + ")", x.count(what), want[what]);
    }

    private static void promise47CountAnotherWhat() {
        Bounds.dues(fresh(), -9, x -> x.count(-1), x -> x.count(9), x -> x.count(10), x -> x.count(17),
            x -> x.count(LEAST), x -> x.count(GREATEST));
        asks(x -> x.count(9), x -> x.count(10), x -> x.count(17), x -> x.count(-1));
    }

    private static void promise47CountRefusalsEachByItself() {
        PatchesSameAge x = fresh();
        x.cellOf(12, 0);
        for (int i = 0; i < 2; i++) x.cellOf(0, 8);
        for (int i = 0; i < 3; i++) x.back();
        for (int i = 0; i < 4; i++) x.row(-1);
        for (int i = 0; i < 6; i++) x.row(100);
        int[] want = {1, 2, 3, 4, 0, 6};
        for (int i = 0; i < 6; i++) due("count(" + (11 + i) + ")", x.count(11 + i), want[i]);
    }
}
