/** For each promise answers worked out by hand: ordinary ones, the edges that the document names, wrong numbers. */
public final class PromisesTest {
    private static final Check CHECK = new Check();

    private static void due(String call, long got, long want) {
        CHECK.due(call, got, want);
    }

    /** CELL 5, that has four beside it, is 40 and all else 0: PULL 40 there and 10 at 1, 4, 6, 9. */
    private static PatchesSameAge oneOld() {
        PatchesSameAge x = new PatchesSameAge();
        x.cell(5, 0, 0, 40);
        return x;
    }

    private static PatchesSameAge told(String text) {
        PatchesSameAge x = new PatchesSameAge();
        tell(x, text);
        return x;
    }

    private static int tell(PatchesSameAge x, String text) {
        feedAll(x, text);
        return x.trousers();
    }

    private static void feedAll(PatchesSameAge x, String text) {
        for (int i = 0; i < text.length(); i++) x.feed(text.charAt(i));
    }

    private static void ages(PatchesSameAge x, int... ages) {
        for (int cell = 0; cell < 12; cell++) x.cell(cell, x.cellOf(cell, 0), x.cellOf(cell, 1), ages[cell]);
    }

    /** No call that is refused changes anything but how many there were. */
    private static void refused(PatchesSameAge x, int why, int many) {
        due("count(" + (10 - why) + ")", x.count(10 - why), many);
    }

    public static void main(String[] args) {
        newObject();
        feed();
        trousers();
        trousersFaults();
        cellOf();
        pullOfKinds();
        wearsOfKinds();
        holdsOfKinds();
        pieces();
        cell();
        puts();
        wears();
        years();
        back();
        behindAndAll();
        holesAndLasts();
        fits();
        bestPieceAndMend();
        keep();
        placed();
        when();
        turns();
        whose();
        islandsAndStrip();
        swap();
        chance();
        oldestAndTightest();
        ageForEntireHarm();
        bestOf();
        pairsSumRank();
        doomedAndYounger();
        meanAndUnlike();
        rowJudgeClear();
        lots();
        imageAndRestore();
        count();
        CHECK.end();
    }

    private static void newObject() {
        PatchesSameAge x = new PatchesSameAge();
        for (int cell = 0; cell < 12; cell++) {
            int[] want = {0, 0, 0, 0, 0, 1, 10, 0};
            for (int what = 0; what < 8; what++) due("new: cellOf " + what, x.cellOf(cell, what), want[what]);
        }
        for (int what = 0; what < 17; what++) {
            due("new: count " + what, x.count(what), what == 9 || what == 10 ? -9 : 0);
        }
        due("new: restore", x.restore(), -3);
        due("new: back", x.back(), -3);
    }

    private static void feed() {
        PatchesSameAge x = new PatchesSameAge();
        due("feed(0)", x.feed(0), 1);
        due("feed(255)", x.feed(255), 2);
        due("feed(-1)", x.feed(-1), -4);
        due("feed(256)", x.feed(256), -6);
        for (int i = 3; i <= 96; i++) due("feed", x.feed('c'), i);
        due("feed the 97th", x.feed('c'), -6);
        due("feed(-1) the 97th", x.feed(-1), -4);
        due("letters", x.count(6), 96);
        refused(x, -4, 2);
        refused(x, -6, 2);
        due("trousers", x.trousers(), -1000);
        due("letters then", x.count(6), 0);
    }

    private static void trousers() {
        PatchesSameAge x = new PatchesSameAge();
        due("c", tell(x, "c01023925;"), 1);
        due("c: kind", x.cellOf(1, 0), 3);
        due("c: figure", x.cellOf(2, 1), 9);
        due("c: age", x.cellOf(2, 2), 25);
        due("c: before", x.cellOf(0, 2), 0);
        due("c: behind", x.cellOf(3, 2), 0);
        due("a piece that is not", tell(x, "w0099;r5798;p101;y02;"), -2012);
        due("nothing of it", x.cellOf(0, 3) + x.count(0) + x.count(1), 0);
        due("a letter that is not", tell(x, "w0099;r5798;p0110;y02;"), -1016);
        due("nothing of it", x.cellOf(0, 3) + x.count(0) + x.count(1), 0);
        due("all", tell(x, "w0099;r5798;r0001;p005;w1134;y02;"), 6);
        due("w", x.cellOf(0, 3), 99);
        due("p: kind", x.cellOf(5, 0), 5);
        due("p: figure", x.cellOf(5, 1), 7);
        due("p: age, two years on", x.cellOf(5, 2), 99);
        due("p: used", x.pieceOf(0, 3), 1);
        due("r: not used", x.pieceOf(1, 3), 0);
        due("w, two years on", x.cellOf(11, 3), 36);
        due("y", x.count(1), 2);
        x.cell(0, 0, 0, 0);
        due("to take back", x.count(8), 1);
        due("fault", tell(x, "q"), -1000);
        due("a fault leaves it", x.count(8), 1);
        due("one more", tell(x, "y01;"), 1);
        due("no fault leaves none", x.count(8), 0);
        due("c makes WEAR 0", tell(x, "w0350;c03030000;"), 2);
        due("WEAR", x.cellOf(3, 3), 0);
        due("24 statements", tell(x, "y01;".repeat(24)), 24);
        due("none is counted", x.count(11) + x.count(12) + x.count(13) + x.count(14) + x.count(16), 0);
    }

    private static void trousersFaults() {
        String[] form = {"", "q", "c", "c0", "y0x", "y01", "y01:", "y01;;", "y01;z", "r000;", "p00;", "w000;", "c0000000;",
            "r00000", "Y01;", "y0/;", "y0:;", "c00120000;p"};
        int[] places = {0, 0, 1, 2, 2, 3, 3, 4, 4, 4, 3, 4, 8, 5, 0, 2, 2, 11};
        for (int i = 0; i < form.length; i++) {
            due("trousers " + form[i], tell(new PatchesSameAge(), form[i]), -1000 - places[i]);
        }
        String[] sense = {"c12120000;", "c00120000;", "c05040000;", "c00006000;", "r6000;", "p000;", "r0000;p100;",
            "r0000;p012;", "r0000;p000;p001;", "w1200;", "y00;", "y61;", "r0000;r0000;r0000;r0000;r0000;r0000;r0000;",
            "y60;y61;y00;"};
        int[] starts = {0, 0, 0, 0, 0, 0, 6, 6, 11, 0, 0, 0, 36, 4};
        for (int i = 0; i < sense.length; i++) {
            due("trousers " + sense[i], tell(new PatchesSameAge(), sense[i]), -2000 - starts[i]);
        }
        PatchesSameAge x = new PatchesSameAge();
        due("960 years", tell(x, "y60;".repeat(16)), 16);
        due("1000", tell(x, "y39;y01;"), -2004);
        due("960 still", x.count(1), 960);
        due("999", tell(x, "y39;"), 1);
        due("999 then", x.count(1), 999);
        due("the first and the last", tell(x, "c00115999;c11110000;"), 2);
        x.piece(0, 0, 0);
        x.puts(0, 0);
        due("used before", tell(x, "p000;"), -2000);
        x.piece(5, 6, 78);
        due("there before", tell(x, "p111;"), 1);
        due("KIND", x.cellOf(11, 0), 5);
        due("FIGURE", x.cellOf(11, 1), 6);
        due("AGE", x.cellOf(11, 2), 78);
        due("none is lost", x.count(0), 2);
        due("both used", x.count(5), 0);
        due("96 letters, one lacks", tell(new PatchesSameAge(), "y01;".repeat(23) + "c000"), -1096);
    }

    private static void cellOf() {
        PatchesSameAge x = oneOld();
        x.wears(5, 10);
        int[] want = {0, 0, 40, 10, 40, 9, 10, 1};
        for (int what = 0; what < 8; what++) due("cellOf(5, " + what + ")", x.cellOf(5, what), want[what]);
        due("PULL beside: above", x.cellOf(1, 4), 10);
        due("PULL beside: left", x.cellOf(4, 4), 10);
        due("PULL beside: right", x.cellOf(6, 4), 10);
        due("PULL beside: below", x.cellOf(9, 4), 10);
        due("not beside: 3 and 4", told("c03030040;").cellOf(4, 4), 0);
        due("cellOf(-1, 9)", x.cellOf(-1, 9), -1);
        due("cellOf(12, 0)", x.cellOf(12, 0), -1);
        due("cellOf(0, -1)", x.cellOf(0, -1), -2);
        due("cellOf(0, 8)", x.cellOf(0, 8), -2);
        refused(x, -1, 2);
        refused(x, -2, 2);
    }

    private static void pullOfKinds() {
        int[] middle = {40, 20, 44, 22, 80, 73};
        int[] little = {1, 0, 3, 2, 2, 0};
        for (int kind = 0; kind < 6; kind++) {
            PatchesSameAge x = new PatchesSameAge();
            x.cell(5, kind, 7, 40);
            due("PULL of " + kind, x.cellOf(5, 4), middle[kind]);
            x.cell(5, 0, 0, 0);
            // two beside the corner, 3 YEARS apart: 6 by 4 is 1, cut
            x.cell(0, kind, 7, 3);
            due("little PULL of " + kind, x.cellOf(0, 4), little[kind]);
        }
    }

    private static void wearsOfKinds() {
        int[] odd = {9, 5, 10, 5, 17, 14};
        int[] even = {9, 5, 10, 0, 17, 14};
        for (int kind = 0; kind < 6; kind++) {
            PatchesSameAge x = new PatchesSameAge();
            x.cell(5, kind, 7, 40);
            due("WEARS of " + kind + " in YEAR 1", x.cellOf(5, 5), odd[kind]);
            x.years(1);
            due("WEAR of " + kind + " behind YEAR 1", x.cellOf(5, 3), odd[kind]);
            due("WEARS of " + kind + " in YEAR 2", x.cellOf(5, 5), even[kind]);
            x.years(1);
            due("WEAR of " + kind + " behind YEAR 2", x.cellOf(5, 3), odd[kind] + even[kind]);
        }
        PatchesSameAge x = new PatchesSameAge();
        x.cell(0, 5, 0, 0);
        due("CORN without PULL", x.cellOf(0, 5), 0);
    }

    private static void holdsOfKinds() {
        int[] holds = {17, 22, 8, 22, 5, 10};
        for (int kind = 0; kind < 6; kind++) {
            PatchesSameAge x = new PatchesSameAge();
            x.cell(5, kind, 7, 0);
            due("HOLDS of " + kind, x.cellOf(5, 6), holds[kind]);
            x.wears(5, holds[kind] - 1);
            due("no HOLE", x.cellOf(5, 7), 0);
            x.wears(5, holds[kind]);
            due("a HOLE", x.cellOf(5, 7), 1);
        }
    }

    private static void pieces() {
        PatchesSameAge x = new PatchesSameAge();
        due("pieceOf(0, 0) of none", x.pieceOf(0, 0), -1);
        due("piece", x.piece(5, 9, 99), 0);
        due("piece", x.piece(0, 0, 0), 1);
        int[] want = {5, 9, 99, 0};
        for (int what = 0; what < 4; what++) due("pieceOf(0, " + what + ")", x.pieceOf(0, what), want[what]);
        due("pieceOf(0, 4)", x.pieceOf(0, 4), -2);
        due("pieceOf(0, -1)", x.pieceOf(0, -1), -2);
        due("pieceOf(2, 4)", x.pieceOf(2, 4), -1);
        due("pieceOf(-1, 0)", x.pieceOf(-1, 0), -1);
        x.puts(1, 3);
        due("used", x.pieceOf(1, 3), 1);
        due("to take back", x.count(8), 1);
        due("piece(6, -1, 100)", x.piece(6, -1, 100), -2);
        due("piece(-1, 0, 0)", x.piece(-1, 0, 0), -2);
        due("piece(0, -1, 100)", x.piece(0, -1, 100), -4);
        due("piece(0, 10, -1)", x.piece(0, 10, -1), -4);
        due("piece(0, 10, 0)", x.piece(0, 10, 0), -6);
        due("piece(0, 0, 100)", x.piece(0, 0, 100), -6);
        due("refused ones leave it", x.count(8), 1);
        for (int i = 2; i < 6; i++) due("piece", x.piece(1, 1, 1), i);
        due("the seventh", x.piece(1, 1, 1), -6);
        due("the seventh, of no kind", x.piece(6, 1, 1), -2);
        due("none to take back", x.count(8), 0);
        x.years(3);
        due("pieces do not age", x.pieceOf(2, 2), 1);
    }

    private static void cell() {
        PatchesSameAge x = oneOld();
        x.wears(5, 7);
        due("cell", x.cell(5, 3, 9, 99), 40);
        due("cell", x.cell(5, 5, 0, 0), 99);
        due("WEAR 0", x.cellOf(5, 3), 0);
        due("KIND", x.cellOf(5, 0), 5);
        due("cell(12, 6, -1, 100)", x.cell(12, 6, -1, 100), -1);
        due("cell(-1, 0, 0, 0)", x.cell(-1, 0, 0, 0), -1);
        due("cell(0, 6, -1, 100)", x.cell(0, 6, -1, 100), -2);
        due("cell(0, -1, 0, 0)", x.cell(0, -1, 0, 0), -2);
        due("cell(0, 0, -1, 100)", x.cell(0, 0, -1, 100), -4);
        due("cell(0, 0, 10, -1)", x.cell(0, 0, 10, -1), -4);
        due("cell(0, 0, 10, 0)", x.cell(0, 0, 10, 0), -6);
        due("cell(0, 0, 0, 100)", x.cell(0, 0, 0, 100), -6);
        due("to take back", x.count(8), 4);
    }

    private static void puts() {
        PatchesSameAge x = new PatchesSameAge();
        x.piece(4, 3, 40);
        x.wears(5, 9);
        due("puts", x.puts(0, 5), 80 + 40);
        due("KIND", x.cellOf(5, 0), 4);
        due("FIGURE", x.cellOf(5, 1), 3);
        due("AGE", x.cellOf(5, 2), 40);
        due("WEAR", x.cellOf(5, 3), 0);
        due("again", x.puts(0, 5), -3);
        due("no such cell, used", x.puts(0, 12), -1);
        due("puts(1, 0)", x.puts(1, 0), -1);
        due("puts(-1, 0)", x.puts(-1, 0), -1);
        due("puts(0, -1)", x.puts(0, -1), -1);
        due("to take back", x.count(8), 2);
    }

    private static void wears() {
        PatchesSameAge x = new PatchesSameAge();
        due("wears", x.wears(3, 99), 0);
        due("wears", x.wears(3, 0), 99);
        due("wears(12, -1)", x.wears(12, -1), -1);
        due("wears(-1, 0)", x.wears(-1, 0), -1);
        due("wears(0, -1)", x.wears(0, -1), -4);
        due("wears(0, 100)", x.wears(0, 100), -6);
        due("to take back", x.count(8), 2);
    }

    private static void years() {
        PatchesSameAge x = oneOld();
        due("years(1)", x.years(1), 0);
        due("years(1)", x.years(1), 1);
        due("years(2)", x.years(2), 5);
        due("AGE", x.cellOf(5, 2), 44);
        due("WEAR", x.cellOf(1, 3), 12);
        due("years(6)", x.years(6), 12);
        due("years(0)", x.years(0), -4);
        due("years(61)", x.years(61), -6);
        due("years(least)", x.years(Integer.MIN_VALUE), -4);
        due("years(greatest)", x.years(Integer.MAX_VALUE), -6);
        due("years(60)", x.years(60), 12);
        due("WEAR 99 at most", x.cellOf(5, 3), 99);
        due("AGE 99 at most", x.cellOf(5, 2), 99);
        due("other AGE", x.cellOf(0, 2), 70);
        for (int i = 0; i < 15; i++) x.years(60);
        due("YEAR", x.count(1), 970);
        due("years(30)", x.years(30), -6);
        due("years(29)", x.years(29), 12);
        due("years(1)", x.years(1), -6);
        due("years(0)", x.years(0), -4);
        due("in mind YEARS go on", x.behind(0, 60, 0), 99);
        refused(x, -6, 4);
        // AGES are 99 at most: 98 and 96 come together, all at once and behind the WEAR
        PatchesSameAge y = told("c00110098;c05050078;");
        due("PULL of 20 apart", y.cellOf(5, 4), 20);
        y.years(2);
        due("PULL of 19 apart", y.cellOf(5, 4), 19);
        due("WEAR by 20, then 20 less 0", y.cellOf(5, 3), 10);
        y.years(1);
        due("WEAR by 19", y.cellOf(5, 3), 14);
    }

    private static void back() {
        PatchesSameAge x = oneOld();
        x.piece(2, 2, 2);
        due("none", x.back(), -3);
        x.puts(0, 5);
        x.wears(1, 5);
        x.years(2);
        x.cell(0, 1, 1, 1);
        due("cell", x.back(), 3);
        due("AGE", x.cellOf(0, 2), 2);
        due("years", x.back(), 2);
        due("YEAR", x.count(1), 0);
        due("AGE", x.cellOf(0, 2), 0);
        due("WEAR", x.cellOf(1, 3), 5);
        due("wears", x.back(), 1);
        due("WEAR", x.cellOf(1, 3), 0);
        due("used", x.pieceOf(0, 3), 1);
        due("puts", x.back(), 0);
        due("not used", x.pieceOf(0, 3), 0);
        due("AGE", x.cellOf(5, 2), 40);
        due("none", x.back(), -3);
        refused(x, -3, 2);
        for (int i = 1; i <= 10; i++) x.wears(0, i);
        due("8 at most", x.count(8), 8);
        for (int i = 7; i >= 0; i--) due("back", x.back(), i);
        due("older ones no more", x.cellOf(0, 3), 2);
        due("none", x.back(), -3);
        x.wears(0, 2);
        due("all stays as it was, and counts", x.count(8), 1);
        x.image();
        due("an image leaves it", x.count(8), 1);
        x.restore();
        due("restored, none", x.back(), -3);
    }

    private static void behindAndAll() {
        PatchesSameAge x = oneOld();
        due("behind(5, 0, 0)", x.behind(5, 0, 0), 0);
        due("behind(5, 2, 0)", x.behind(5, 2, 0), 18);
        due("behind(5, 2, 1)", x.behind(5, 2, 1), 40);
        due("behind(5, 1, 2)", x.behind(5, 1, 2), 0);
        due("behind(5, 2, 2)", x.behind(5, 2, 2), 1);
        due("behind(0, 60, 0)", x.behind(0, 60, 0), 60);
        due("behind(5, 60, 1): 99 and 60", x.behind(5, 60, 1), 39);
        due("behind(12, -1, 3)", x.behind(12, -1, 3), -1);
        due("behind(0, -1, 3)", x.behind(0, -1, 3), -4);
        due("behind(0, 61, 3)", x.behind(0, 61, 3), -6);
        due("behind(0, 60, 3)", x.behind(0, 60, 3), -2);
        due("behind(0, 60, -1)", x.behind(0, 60, -1), -2);
        due("all(1, 0)", x.all(1, 0), 0);
        due("all(4, 0)", x.all(4, 0), 5);
        due("all(1, 1)", x.all(1, 1), 9 + 4 * 3 + 7);
        due("all(1, 2)", x.all(1, 2), 80);
        due("all(-1, 3)", x.all(-1, 3), -4);
        due("all(61, 3)", x.all(61, 3), -6);
        due("all(0, 3)", x.all(0, 3), -2);
        due("all(0, -1)", x.all(0, -1), -2);
        due("all(60, 0)", x.all(60, 0), 12);
        due("nothing changed", x.count(1) + x.count(4), 0);
    }

    private static void holesAndLasts() {
        PatchesSameAge x = oneOld();
        x.cell(3, 0, 9, 0);
        due("LAST WHOLE", x.holes(2), 3);
        x.cell(8, 5, 0, 0);
        due("LAST WHOLE: never is latest", x.holes(2), 8);
        x = oneOld();
        due("holes(0)", x.holes(0), 2);
        due("holes(1)", x.holes(1), 5);
        due("holes(2)", x.holes(2), 0);
        due("holes(3)", x.holes(3), -2);
        due("holes(-1)", x.holes(-1), -2);
        due("lasts(5)", x.lasts(5), 2);
        due("lasts(9)", x.lasts(9), 4);
        due("lasts(11)", x.lasts(11), 10);
        due("lasts(12)", x.lasts(12), -1);
        due("lasts(-1)", x.lasts(-1), -1);
        x.wears(7, 10);
        due("now", x.holes(0), 0);
        due("now", x.holes(1), 7);
        due("now", x.lasts(7), 0);
        // of CORN of one AGE nothing wears
        PatchesSameAge y = told("c00115000;");
        due("never", y.holes(0), -9);
        due("never", y.holes(1), -9);
        due("never, of several the least", y.holes(2), 0);
        due("never", y.lasts(3), -9);
        y.cell(6, 0, 9, 0);
        y.cell(7, 0, 9, 0);
        due("of several the least", y.holes(1), 6);
        due("the first", y.holes(0), 19);
        due("LINEN holds 24 and wears every other YEAR", told("c00115000;c05053900;w0500;").lasts(5), 47);
    }

    private static void fits() {
        PatchesSameAge x = oneOld();
        x.piece(0, 0, 0);
        x.piece(0, 0, 40);
        due("fits(0, 0)", x.fits(0, 0), 5);
        due("fits(0, 1)", x.fits(0, 1), 0);
        due("fits(1, 0): where it stands", x.fits(1, 0), 5);
        due("fits(1, 1)", x.fits(1, 1), 80);
        due("fits(2, 2)", x.fits(2, 2), -1);
        due("fits(-1, 0)", x.fits(-1, 0), -1);
        x.puts(0, 5);
        due("of several the least", x.fits(1, 0), 0);
        // a corner 40 apart from two: 20 there, 10 at each beside
        due("that PULL", x.fits(1, 1), 40);
        due("fits(0, 2)", x.fits(0, 2), -2);
        due("fits(0, -1)", x.fits(0, -1), -2);
        due("fits(0, 0)", x.fits(0, 0), -3);
    }

    private static void bestPieceAndMend() {
        PatchesSameAge x = new PatchesSameAge();
        due("none", x.bestPiece(0), -9);
        x.piece(0, 5, 0);
        x.piece(0, 9, 0);
        x.piece(0, 9, 0);
        x.piece(5, 0, 0);
        x.piece(1, 9, 0);
        x.piece(5, 0, 0);
        due("never: longest, the least", x.bestPiece(0), 3);
        x.puts(3, 5);
        due("the other one that never", x.bestPiece(0), 5);
        x.puts(5, 6);
        due("longest", x.bestPiece(0), 4);
        x.puts(4, 7);
        due("of several the least", x.bestPiece(11), 1);
        due("the only one", told("r0000;").bestPiece(0), 0);
        due("bestPiece(12)", x.bestPiece(12), -1);
        due("bestPiece(-1)", x.bestPiece(-1), -1);
        due("no HOLES", x.mend(), 0);
        x.wears(0, 10);
        due("one", x.mend(), 1);
        x.puts(0, 1);
        due("one", x.mend(), 2);
        x.wears(11, 99);
        due("two", x.mend(), 6);
        x.wears(10, 99);
        due("fewer", x.mend(), -9);
    }

    private static void keep() {
        PatchesSameAge x = oneOld();
        due("no pieces", x.keep(), -9);
        x.piece(0, 0, 40);
        due("not later", x.keep(), -9);
        x.piece(0, 0, 0);
        due("later", x.keep(), 105);
        x.piece(0, 0, 0);
        due("of several the least", x.keep(), 105);
        x.puts(1, 0);
        due("not used", x.keep(), 205);
        PatchesSameAge z = told("r0000;w0009;");
        due("CELL 0", z.keep(), 0);
        PatchesSameAge y = told("c00115000;r5000;");
        due("never is not later than never", y.keep(), -9);
        y.cell(8, 0, 0, 0);
        due("never", y.keep(), 8);
    }

    private static void placed() {
        PatchesSameAge x = oneOld();
        due("none", x.placed(-1), -9);
        due("placed(0)", x.placed(0), -1);
        due("placed(-2)", x.placed(-2), -1);
        x.piece(0, 0, 40);
        x.piece(0, 0, 40);
        // one stays at 5; the other beside it at 1: three apart from it, three apart from 5
        // at 5: 30, at 1: two apart 20, around: 0, 2 and 4, 6, 9: 10 each
        due("one in place, one beside", x.placed(-1), 30 + 20 + 50);
        // as good, and first: at 0 and 1 beside the one at 5, 10 at 0, 1, 2, 6, 9, 20 at 4, 30 at 5
        due("cell of 0", x.placed(0), 0);
        due("cell of 1", x.placed(1), 1);
        due("placed(2)", x.placed(2), -1);
        x.piece(0, 0, 0);
        due("three", x.placed(-1), 60);
        x.piece(0, 0, 0);
        due("four", x.placed(-1), -3);
        due("four", x.placed(4), -1);
        x.puts(0, 5);
        due("three", x.placed(0), -9);
        x.piece(0, 0, 0);
        due("four", x.placed(0), -3);
        refused(x, -3, 2);
        x.puts(1, 5);
        x.puts(2, 5);
        x.puts(3, 5);
        due("one", x.placed(-1), 0);
        due("of several the first", x.placed(4), 0);
        x.puts(4, 0);
        due("none left", x.placed(-1), -9);
        due("none left", x.placed(4), -9);
    }

    private static void when() {
        PatchesSameAge x = new PatchesSameAge();
        x.piece(0, 0, 10);
        x.piece(5, 0, 0);
        x.piece(0, 0, 30);
        // put behind 19 it wears 1 a YEAR: a HOLE behind 29; behind 20 .. 29 PULL 5 .. 9, 2 a YEAR: 34 at last; behind 30
        // PULL 10, 3 a YEAR: 34 too
        due("latest, of several the least", x.when(0, 0), 29);
        due("of CORN put at once", x.when(1, 0), 0);
        due("as old as all then", x.when(2, 0), 30);
        // LINEN wears 1 in odd YEARS; from YEAR 1 on, put behind 28 or 29, its 16th such YEAR is YEAR 61: a HOLE behind 60,
        // put behind 30 it never is one in time
        due("60 counts, 61 is never", told("y01;r3120;").when(0, 0), 30);
        due("when(3, 0)", x.when(3, 0), -1);
        due("when(-1, 0)", x.when(-1, 0), -1);
        due("when(0, 12)", x.when(0, 12), -1);
        due("when(0, -1)", x.when(0, -1), -1);
        x.puts(0, 3);
        due("used", x.when(0, 0), -3);
        due("used, no such cell", x.when(0, 12), -1);
    }

    private static void turns() {
        PatchesSameAge x = oneOld();
        due("none", x.turns(0), -9);
        due("none", x.turns(1), -9);
        due("turns(2)", x.turns(2), -2);
        due("turns(-1)", x.turns(-1), -2);
        x.piece(0, 0, 0);
        due("one: the least", x.turns(0), 0);
        due("one: where", x.turns(1), 5);
        x.piece(0, 0, 40);
        // the old one at 5, where it changes nothing: the other can put a young one elsewhere alone: 80; else an old one
        // in the midst of young ones is at its worst 80
        due("two", x.turns(0), 80);
        due("two: first of several", x.turns(1), 5);
        x.piece(0, 0, 0);
        x.piece(0, 0, 0);
        due("four", x.turns(0), -3);
        due("four", x.turns(2), -2);
        PatchesSameAge y = told("r0000;r0000;r0000;");
        due("three of all the same", y.turns(0), 0);
        due("three of all the same", y.turns(1), 0);
        y.puts(0, 0);
        due("the first not used", y.turns(1), 100);
    }

    private static void whose() {
        PatchesSameAge x = oneOld();
        due("an empty ROW: KINDS", x.whose(5, 0), 63);
        due("an empty ROW: FIGURES", x.whose(5, 1), 1023);
        due("an empty ROW: AGES", x.whose(5, 2), 100);
        x.row(0);
        due("as it is now", x.whose(5, 0), 63);
        x.row(9);
        x.row(18);
        due("KINDS", x.whose(5, 0), 1);
        due("FIGURES", x.whose(5, 1), 1023);
        due("AGES: PULL 40 .. 44", x.whose(5, 2), 5);
        due("it stays", x.count(7), 3);
        due("whose(12, 3)", x.whose(12, 3), -1);
        due("whose(5, 3)", x.whose(5, 3), -2);
        due("whose(5, -1)", x.whose(5, -1), -2);
        x.clear();
        // WOOL 20 wears 5, LINEN of FIGURE 0 .. 9 has 20 .. 23, wears 5 in odd YEARS
        x.row(0);
        x.row(5);
        due("WOOL and LINEN", x.whose(5, 0), 2 + 8);
        x.row(5);
        due("LINEN", x.whose(5, 0), 8);
        x.clear();
        x.row(1);
        due("it has not worn so", x.whose(5, 2), 0);
        // CORN of 40: PULL 80 less FIGURE wears PULL over 5: 16 by 0, 15 by 1 .. 5, 14 by more
        x.cell(5, 5, 0, 40);
        x.clear();
        x.row(0);
        x.row(15);
        due("FIGURES of CORN", x.whose(5, 1), 62);
    }

    private static void islandsAndStrip() {
        PatchesSameAge x = new PatchesSameAge();
        ages(x, 0, 5, 9, 20, 1, 50, 51, 20, 99, 98, 50, 30);
        // 0-4 by 1, 5-6-10 by 1, 8-9 by 1, 3-7 by 0; 1, 2, 11 alone
        due("islands(1, 0)", x.islands(1, 0), 7);
        due("islands(1, 1)", x.islands(1, 1), 3);
        due("islands(0, 0)", x.islands(0, 0), 11);
        due("islands(0, 1)", x.islands(0, 1), 2);
        due("islands(99, 0)", x.islands(99, 0), 1);
        due("islands(99, 1)", x.islands(99, 1), 12);
        due("islands(-1, 2)", x.islands(-1, 2), -4);
        due("islands(100, 2)", x.islands(100, 2), -6);
        due("islands(0, 2)", x.islands(0, 2), -2);
        due("islands(0, -1)", x.islands(0, -1), -2);
        due("strip(0)", x.strip(0), 4);
        due("strip(1)", x.strip(1), 0);
        ages(x, 5, 4, 4, 3, 4, 5, 3, 3, 2, 2, 2, 1);
        due("strip(0)", x.strip(0), 3);
        due("strip(1)", x.strip(1), 8);
        ages(x, 3, 2, 1, 0, 9, 8, 7, 6, 9, 8, 7, 6);
        due("no strip goes on in the next row", x.strip(0), 1);
        due("the first", x.strip(1), 0);
        ages(x, 3, 2, 3, 0, 9, 8, 9, 6, 9, 8, 7, 6);
        due("the first such", x.strip(1), 1);
        due("strip(2)", x.strip(2), -2);
        due("strip(-1)", x.strip(-1), -2);
    }

    private static void swap() {
        PatchesSameAge x = oneOld();
        // in a corner 20, and 10 at each of two beside: 40 instead of 80
        due("swap", x.swap(), 5);
        x.cell(5, 0, 0, 0);
        x.cell(0, 0, 0, 40);
        due("none is less", x.swap(), -9);
        x.cell(11, 0, 0, 40);
        // SILK PULLS 1 for each of four beside, in a corner of two
        due("their KINDS too", told("c05052000;").swap(), 5);
        due("beside each other", told("c01012000;").swap(), 1);
        due("not the first", told("c00002000;c03032000;c08082000;c10102000;").swap(), 1011);
        // two corners: 80; both beside each other at the rim: 60, first by 0 and 7
        due("of several the first", x.swap(), 7);
    }

    private static void chance() {
        PatchesSameAge x = oneOld();
        // it wears 9 a YEAR and holds 10
        due("none: above", x.chance(5, 1, 2, 0), 0);
        due("none: below", x.chance(5, 1, 2, 1), 1);
        due("n 0: below", x.chance(5, 0, 20, 1), 1);
        due("both of two: above", x.chance(5, 2, 2, 0), 1);
        due("both of two: below", x.chance(5, 2, 2, 1), 4);
        due("two or three of three: above", x.chance(5, 3, 3, 0), 20);
        due("two or three of three: below", x.chance(5, 3, 3, 1), 27);
        // all but none and one of eight: 20 to the 8 less 19 times 8 less 1
        due("above", x.chance(5, 8, 20, 0), 25600000000L - 8 * 19 - 1);
        due("below", x.chance(5, 8, 20, 1), 25600000000L);
        x.wears(5, 10);
        due("a HOLE now: above", x.chance(5, 8, 20, 0), 1);
        due("a HOLE now: below", x.chance(5, 8, 20, 1), 1);
        due("chance(12, -1, 1, 2)", x.chance(12, -1, 1, 2), 4000000000000000001L);
        due("chance(-1, 0, 2, 0)", x.chance(-1, 0, 2, 0), 4000000000000000001L);
        due("chance(0, -1, 21, 2)", x.chance(0, -1, 21, 2), 4000000000000000004L);
        due("chance(0, 9, 1, 2)", x.chance(0, 9, 1, 2), 4000000000000000004L);
        due("chance(0, 9, 2, 2)", x.chance(0, 9, 2, 2), 4000000000000000006L);
        due("chance(0, 0, 21, 2)", x.chance(0, 0, 21, 2), 4000000000000000006L);
        due("chance(0, 0, 2, 2)", x.chance(0, 0, 2, 2), 4000000000000000002L);
        due("chance(0, 0, 2, -1)", x.chance(0, 0, 2, -1), 4000000000000000002L);
        refused(x, -1, 2);
        refused(x, -2, 2);
        refused(x, -4, 2);
        refused(x, -6, 2);
        // LINEN of 15, 4 at a corner: wears 1 in YEARS 1 and 3 alone
        PatchesSameAge y = told("c00003000;w0013;");
        due("YEAR by YEAR: above", y.chance(0, 3, 2, 0), 1);
        due("YEAR by YEAR: below", y.chance(0, 3, 2, 1), 4);
    }

    private static void oldestAndTightest() {
        PatchesSameAge x = new PatchesSameAge();
        ages(x, 10, 30, 20, 99, 50, 40, 60, 70, 80, 99, 90, 0);
        due("oldest(0)", x.oldest(0), 3);
        due("the sixth by size", x.oldest(1), 50);
        due("oldest(2)", x.oldest(2), -2);
        due("CELL 1", told("c01010001;").oldest(0), 1);
        due("oldest(-1)", x.oldest(-1), -2);
        // 10 and 11 are 90 apart, 2 and 3 are 79
        due("tightest(0)", x.tightest(0), 1011);
        due("tightest(1)", x.tightest(1), 90);
        due("tightest(2)", x.tightest(2), -2);
        due("tightest(-1)", x.tightest(-1), -2);
        PatchesSameAge y = oneOld();
        due("of several the first", y.tightest(0), 105);
        due("how far", y.tightest(1), 40);
        due("of several the least", y.oldest(1), 0);
        y.cell(5, 0, 0, 0);
        y.cell(4, 0, 0, 7);
        due("up and down goes by the lesser", y.tightest(0), 4);
        // 3 and 4 are in two rows
        due("not beside each other", told("c03030090;c04040000;").tightest(0), 203);
    }

    private static void ageForEntireHarm() {
        PatchesSameAge x = oneOld();
        due("ageFor(5)", x.ageFor(5), 0);
        due("ageFor(0)", x.ageFor(0), 0);
        due("ageFor(12)", x.ageFor(12), -1);
        due("ageFor(-1)", x.ageFor(-1), -1);
        due("entire", x.entire(), 7);
        due("harm(5)", x.harm(5), 80);
        due("harm(0)", x.harm(0), 0);
        due("harm(12)", x.harm(12), 1000000001);
        due("harm(-1)", x.harm(-1), 1000000001);
        refused(x, -1, 4);
        PatchesSameAge y = new PatchesSameAge();
        ages(y, 0, 40, 0, 0, 20, 0, 0, 0, 0, 0, 0, 0);
        y.cell(1, 4, 0, 40);
        // at 20: 15 -> 5 there, 60 -> 50 at 1, 15 -> 10 at 4
        due("two beside, the lesser", y.harm(0), 25);
        ages(y, 10, 90, 30, 0, 0, 60, 0, 0, 0, 0, 0, 0);
        y.cell(1, 0, 0, 90);
        // at 30: 42 -> 12 there, 22 -> 7 at 0, 30 -> 15 at 2, 52 still at 5
        due("three beside, the middle", y.harm(1), 60);
        ages(y, 0, 0, 0, 0, 10, 80, 50, 0, 0, 60, 0, 0);
        y.cell(9, 4, 0, 60);
        // at 10: 50 -> 25 there, 20 -> 2 at 1, 22 -> 5 at 4, 45 -> 47 at 6, 70 -> 84 at 9
        due("four beside, the lesser middle one", y.harm(5), 44);
        PatchesSameAge z = new PatchesSameAge();
        ages(z, 20, 10, 10, 0, 30, 10, 0, 0, 30, 0, 0, 0);
        // at 10: 5 still there, 2 -> 0 at 1, 7 -> 10 at 4
        due("below 0", z.harm(0), -1);
        // CORN of FIGURE 9 at a corner, all else 50: by 41 .. 59 no PULL there, by 47 .. 53 none at both beside either
        PatchesSameAge w = told("c00110050;c00005900;");
        due("ageFor", w.ageFor(0), 47);
    }

    private static void bestOf() {
        PatchesSameAge x = new PatchesSameAge();
        due("CORN never is a HOLE", x.bestOf(0, 0), 5);
        due("the greatest FIGURE", x.bestOf(0, 1), 9);
        x.wears(0, 30);
        due("a HOLE whatever it is: the least", x.bestOf(0, 0), 0);
        due("a HOLE whatever it is: the least", x.bestOf(0, 1), 0);
        x.wears(0, 12);
        // LINEN holds 15 and wears every other YEAR
        due("WEAR stays", x.bestOf(0, 0), 3);
        due("PATCH holds 5 by any FIGURE", told("c03034000;").bestOf(3, 1), 0);
        due("bestOf(12, 2)", x.bestOf(12, 2), -1);
        due("bestOf(-1, 0)", x.bestOf(-1, 0), -1);
        due("bestOf(0, 2)", x.bestOf(0, 2), -2);
        due("bestOf(0, -1)", x.bestOf(0, -1), -2);
    }

    private static void pairsSumRank() {
        PatchesSameAge x = new PatchesSameAge();
        due("all", x.pairs(), 17);
        x.cell(5, 1, 0, 7);
        due("but four", x.pairs(), 13);
        x.cell(6, 1, 0, 8);
        due("two beside each other", x.pairs(), 11);
        x.cell(11, 0, 0, 9);
        x.cell(3, 0, 0, 3);
        due("sumOf(0)", x.sumOf(0), 3);
        due("sumOf(1)", x.sumOf(1), 15);
        due("sumOf(2)", x.sumOf(2), 9);
        due("all four columns", told("c04070004;c08110009;").sumOf(1), 16);
        due("sumOf(3)", x.sumOf(3), -1);
        due("sumOf(-1)", x.sumOf(-1), -1);
        x.wears(7, 9);
        x.wears(2, 4);
        x.wears(3, 4);
        due("rank(0)", x.rank(0), 7);
        due("rank(1)", x.rank(1), 2);
        due("rank(2)", x.rank(2), 3);
        due("rank(3)", x.rank(3), 0);
        due("rank(11)", x.rank(11), 11);
        due("rank(12)", x.rank(12), -9);
        due("rank(greatest)", x.rank(Integer.MAX_VALUE), -9);
        due("rank(-1)", x.rank(-1), -4);
    }

    private static void doomedAndYounger() {
        PatchesSameAge x = oneOld();
        due("doomed(0)", x.doomed(0), 0);
        due("doomed(1)", x.doomed(1), 0);
        due("doomed(2)", x.doomed(2), 32);
        due("doomed(4)", x.doomed(4), 2 + 16 + 32 + 64 + 512);
        x.wears(1, 10);
        due("not those that are", x.doomed(4), 16 + 32 + 64 + 512);
        due("doomed(60)", x.doomed(60), 4093);
        due("doomed(-1)", x.doomed(-1), -4);
        due("doomed(61)", x.doomed(61), -6);
        PatchesSameAge y = oneOld();
        due("younger(0)", y.younger(0), 0);
        due("younger(59): still so far apart", y.younger(59), 0);
        // 99 and 94: PULL 5, then 4, 3 ..: 2 in the first YEAR, then 1 a YEAR
        due("younger(94)", y.younger(94), 2 - 9);
        due("younger(99)", y.younger(99), 2 - 10);
        due("younger(-1)", y.younger(-1), 1000000004);
        due("younger(100)", y.younger(100), 1000000006);
        refused(y, -4, 1);
        refused(y, -6, 1);
        due("never: 61", told("c00115000;").younger(50), 0);
        // CORN 40 apart from four wears 16: a HOLE behind 1; of one AGE never
        due("never when all are 99", told("c00115000;c05055040;").younger(99), 1 - 61);
    }

    private static void meanAndUnlike() {
        PatchesSameAge x = new PatchesSameAge();
        due("0 over 1", x.mean(0), 0);
        due("0 over 1", x.mean(1), 1);
        due("unlike", x.unlike(), 1);
        x.cell(0, 0, 0, 8);
        due("8 over 12", x.mean(0), 2);
        due("8 over 12", x.mean(1), 3);
        x.cell(1, 0, 0, 99);
        x.cell(2, 0, 0, 8);
        x.cell(3, 0, 0, 5);
        due("120 over 12", x.mean(0), 10);
        due("120 over 12", x.mean(1), 1);
        due("unlike", x.unlike(), 4);
        due("mean(2)", x.mean(2), 4000000000000000002L);
        due("mean(-1)", x.mean(-1), 4000000000000000002L);
        refused(x, -2, 2);
    }

    private static void rowJudgeClear() {
        PatchesSameAge x = new PatchesSameAge();
        ages(x, 0, 1, 2, 3, 4, 5, 6, 7, 8, 9, 10, 11);
        due("an empty ROW", x.judge(), -9);
        for (int i = 0; i < 12; i++) due("row", x.row(i), i + 1);
        due("the 13th", x.row(0), -6);
        due("row(-1)", x.row(-1), -4);
        due("judge", x.judge(), -9);
        due("none then", x.count(7), 0);
        due("row(99)", x.row(99), 1);
        due("row(100)", x.row(100), -6);
        due("judge", x.judge(), 0);
        due("none then", x.count(7), 0);
        x.row(0);
        x.row(1);
        x.row(1);
        x.row(9);
        due("the first", x.judge(), 2);
        x.row(0);
        x.row(1);
        due("a short one", x.judge(), -9);
        x.row(5);
        x.row(5);
        due("clear", x.clear(), 2);
        due("clear", x.clear(), 0);
        refused(x, -4, 1);
        refused(x, -6, 2);
    }

    private static void lots() {
        PatchesSameAge x = new PatchesSameAge();
        due("all go into holes", x.lots(20, 5, 0), 240);
        due("lots(0, 0, 2)", x.lots(0, 0, 2), -4);
        due("lots(-1, 0, 0)", x.lots(-1, 0, 0), -4);
        due("lots(21, 0, 2)", x.lots(21, 0, 2), -6);
        due("lots(1, 0, 2)", x.lots(1, 0, 2), -2);
        due("lots(1, 0, -1)", x.lots(1, 0, -1), -2);
        due("nothing changed", x.count(1) + x.count(3) + x.count(4), 0);
        for (int seed : new int[] {0, 1, 77, -1, 123456789, Integer.MAX_VALUE, Integer.MIN_VALUE}) twoLives(x, seed);
    }

    /** The DRAWS made here by longs; the lives lived by the program's own years(). */
    private static void twoLives(PatchesSameAge x, int z) {
        long seed = z;
        int wear = 0;
        for (int life = 0; life < 2; life++) {
            int[] ages = new int[12];
            for (int cell = 0; cell < 12; cell++) {
                seed = (seed * 1103515245L + 12345L) & 0xffffffffL;
                ages[cell] = (int) ((seed & 0x7fffffffL) >> 16) % 60;
            }
            PatchesSameAge y = new PatchesSameAge();
            ages(y, ages);
            y.years(20);
            wear += y.count(4);
            due("lives of seed " + z, x.lots(life + 1, z, 1), wear);
        }
    }

    private static void imageAndRestore() {
        PatchesSameAge x = oneOld();
        x.piece(1, 2, 3);
        x.piece(4, 5, 6);
        x.puts(1, 0);
        x.years(5);
        due("image", x.image(), 5);
        x.years(2);
        x.puts(0, 3);
        x.piece(0, 0, 0);
        x.row(7);
        x.feed('y');
        x.back();
        due("restore", x.restore(), 5);
        due("YEAR", x.count(1), 5);
        due("PIECES", x.count(0), 2);
        due("not used", x.pieceOf(0, 3), 0);
        due("used", x.pieceOf(1, 3), 1);
        due("KIND of a PIECE", x.pieceOf(1, 0), 4);
        due("FIGURE of a PIECE", x.pieceOf(1, 1), 5);
        due("AGE of a PIECE", x.pieceOf(1, 2), 6);
        PatchesSameAge other = told("r1234;");
        other.image();
        tell(other, "r5678;y09;");
        other.restore();
        other.piece(4, 3, 21);
        other.restore();
        due("a PIECE of the image", other.pieceOf(0, 2), 34);
        due("no more", other.pieceOf(1, 0), -1);
        due("AGE", x.cellOf(5, 2), 45);
        due("WEAR", x.cellOf(5, 3), 45);
        due("the ROW stays", x.count(7), 1);
        due("letters stay", x.count(6), 1);
        due("REFUSALS stay", x.count(13), 1);
        due("none to take back", x.back(), -3);
        x.years(9);
        due("again", x.restore(), 5);
        x.cell(0, 0, 0, 0);
        due("another", x.image(), 5);
        x.cell(0, 0, 0, 9);
        due("restore", x.restore(), 5);
        due("AGE", x.cellOf(0, 2), 0);
    }

    private static void count() {
        PatchesSameAge x = told("r0000;r0000;c00020030;w0510;w1110;y01;");
        x.puts(1, 7);
        int[] want = {2, 1, 32 + 2048, 3 * 31 + 8, x.count(4), 1, 0, 0, 1, -9, -9, 0, 0, 0, 0, 0, 0, -9};
        for (int what = 0; what < want.length; what++) due("count(" + what + ")", x.count(what), want[what]);
        int wear = 0;
        for (int cell = 0; cell < 12; cell++) wear += x.cellOf(cell, 3);
        due("all WEAR", x.count(4), wear);
        due("count(-1)", x.count(-1), -9);
        due("count(greatest)", x.count(Integer.MAX_VALUE), -9);
        due("count(least)", x.count(Integer.MIN_VALUE), -9);
        due("none is counted", x.count(12), 0);
        x.cellOf(12, 0);
        x.cellOf(0, 9);
        x.cellOf(0, 9);
        x.puts(1, 1);
        x.restore();
        x.row(-1);
        x.row(100);
        int[] refusals = {1, 2, 2, 1, 0, 1};
        for (int i = 0; i < 6; i++) due("count(" + (11 + i) + ")", x.count(11 + i), refusals[i]);
    }
}
