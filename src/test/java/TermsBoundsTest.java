/**
 * The boundaries that the document's Terms name: each test is named after the part of them that it stands in, I to IV, THE
 * IMAGE and REFUSALS.
 */
public final class TermsBoundsTest {
    private static final int CLOTH = 0;
    private static final int WOOL = 1;
    private static final int SILK = 2;
    private static final int LINEN = 3;
    private static final int PATCH = 4;
    private static final int CORN = 5;
    /** Trousers of which no CELL ever wears. */
    private static final String NEVER = "c00115000;";

    public static void main(String[] args) throws Exception {
        Bounds.run(TermsBoundsTest.class);
    }

    private static void due(String call, long got, long want) {
        Bounds.due(call, got, want);
    }

    private static PatchesSameAge fresh() {
        return Bounds.fresh();
    }

    private static PatchesSameAge told(String text) {
        return Bounds.told(text);
    }

    private static int tell(PatchesSameAge x, String text) {
        return Bounds.tell(x, text);
    }

    private static PatchesSameAge aged(int... ages) {
        return Bounds.aged(ages);
    }

    /** CELL 0, that has two BESIDE, is of a KIND and FIGURE and AGE 0; those BESIDE are of these AGES, all else of AGE 0. */
    private static PatchesSameAge corner(int kind, int figure, int right, int below) {
        PatchesSameAge x = fresh();
        x.cell(0, kind, figure, 0);
        x.cell(1, CLOTH, 0, right);
        x.cell(4, CLOTH, 0, below);
        return x;
    }

    private static void pull(int kind, int figure, int right, int below, int want) {
        due("PULL of " + kind + ", FIGURE " + figure + ", " + right + " and " + below + " apart",
            corner(kind, figure, right, below).cellOf(0, 4), want);
    }

    /** Told of the YEAR to come, then worn so. */
    private static void wearing(int kind, int figure, int right, int below, int want) {
        PatchesSameAge x = corner(kind, figure, right, below);
        String of = " of " + kind + ", FIGURE " + figure + ", " + right + " and " + below + " apart";
        due("WEARS" + of, x.cellOf(0, 5), want);
        x.years(1);
        due("WEAR" + of, x.cellOf(0, 3), want);
    }

    private static void hold(int kind, int figure, int want) {
        PatchesSameAge x = fresh();
        x.cell(0, kind, figure, 0);
        due("HOLDS of " + kind + ", FIGURE " + figure, x.cellOf(0, 6), want);
        x.wears(0, want - 1);
        due("no HOLE, KIND " + kind, x.cellOf(0, 7), 0);
        x.wears(0, want);
        due("a HOLE, KIND " + kind, x.cellOf(0, 7), 1);
        x.wears(0, want + 1);
        due("a HOLE by more, KIND " + kind, x.cellOf(0, 7), 1);
        x.wears(0, 99);
        due("a HOLE by the most, KIND " + kind, x.cellOf(0, 7), 1);
    }

    // ---- I: CELLS

    private static void part1BesideOfEachCell() {
        int[][] beside = {{1, 4}, {0, 2, 5}, {1, 3, 6}, {2, 7}, {0, 5, 8}, {1, 4, 6, 9}, {2, 5, 7, 10}, {3, 6, 11},
            {4, 9}, {5, 8, 10}, {6, 9, 11}, {7, 10}};
        for (int cell = 0; cell < 12; cell++) {
            PatchesSameAge x = fresh();
            x.cell(cell, CLOTH, 0, 4);
            int[] want = new int[12];
            want[cell] = beside[cell].length;
            for (int other : beside[cell]) want[other] = 1;
            for (int i = 0; i < 12; i++) due(cell + " is older: PULL of " + i, x.cellOf(i, 4), want[i]);
        }
    }

    private static void part1AllIs0AtFirst() {
        PatchesSameAge x = fresh();
        for (int what = 0; what < 4; what++) due("cellOf(11, " + what + ")", x.cellOf(11, what), 0);
        due("YEAR", x.count(1), 0);
    }

    private static void part1PiecesAsTheyCome() {
        PatchesSameAge x = fresh();
        for (int i = 0; i < 6; i++) {
            due("its number", x.piece(i, 9 - i, 90 + i), i);
            due("not used at first", x.pieceOf(i, 3), 0);
        }
        for (int i = 0; i < 6; i++) {
            due("KIND", x.pieceOf(i, 0), i);
            due("FIGURE", x.pieceOf(i, 1), 9 - i);
            due("AGE", x.pieceOf(i, 2), 90 + i);
        }
        due("6 at most", x.piece(0, 0, 0), -6);
    }

    // ---- I: PULL

    private static void part1PullOfClothIsCut() {
        pull(CLOTH, 9, 0, 0, 0);
        pull(CLOTH, 9, 3, 0, 0);
        pull(CLOTH, 9, 1, 2, 0);
        pull(CLOTH, 9, 2, 2, 1);
        pull(CLOTH, 9, 4, 3, 1);
        pull(CLOTH, 9, 4, 4, 2);
        pull(CLOTH, 9, 99, 99, 49);
    }

    private static void part1PullOfClothByYoungerAndOlder() {
        due("one 4 younger, one 4 older", aged(50, 46, 0, 0, 54, 0, 0, 0, 0, 0, 0, 0).cellOf(0, 4), 2);
    }

    private static void part1PullOfWoolIsHalfCut() {
        pull(WOOL, 9, 4, 3, 0);
        pull(WOOL, 9, 4, 4, 1);
        pull(WOOL, 9, 8, 7, 1);
        pull(WOOL, 9, 8, 8, 2);
        pull(WOOL, 9, 99, 99, 24);
    }

    private static void part1PullOfSilkIsOneMoreForEachBeside() {
        PatchesSameAge x = told("c00112000;");
        int[] beside = {2, 3, 3, 2, 3, 4, 4, 3, 2, 3, 3, 2};
        for (int cell = 0; cell < 12; cell++) due("PULL of " + cell, x.cellOf(cell, 4), beside[cell]);
        pull(SILK, 9, 1, 2, 2);
        pull(SILK, 9, 2, 2, 3);
        pull(SILK, 9, 99, 99, 51);
    }

    private static void part1PullOfLinenIsAThirdOfFigureMore() {
        int[] more = {0, 0, 0, 1, 1, 1, 2, 2, 2, 3};
        for (int figure = 0; figure <= 9; figure++) {
            pull(LINEN, figure, 0, 0, more[figure]);
            pull(LINEN, figure, 8, 7, more[figure] + 1);
        }
    }

    private static void part1PullOfPatchIsTwiceWhatIsCut() {
        pull(PATCH, 9, 1, 2, 0);
        pull(PATCH, 9, 2, 2, 2);
        pull(PATCH, 9, 4, 3, 2);
        pull(PATCH, 9, 99, 99, 98);
    }

    private static void part1PullOfCornIs0AtLeast() {
        pull(CORN, 0, 8, 8, 8);
        pull(CORN, 7, 8, 8, 1);
        pull(CORN, 8, 8, 8, 0);
        pull(CORN, 9, 8, 8, 0);
        pull(CORN, 9, 0, 0, 0);
        pull(CORN, 9, 99, 99, 89);
    }

    // ---- I: WEARS

    private static void part1WearsOfClothByPullOver5() {
        wearing(CLOTH, 0, 0, 0, 1);
        wearing(CLOTH, 0, 8, 8, 1);
        wearing(CLOTH, 0, 10, 10, 2);
        wearing(CLOTH, 0, 19, 19, 2);
        wearing(CLOTH, 0, 20, 20, 3);
        wearing(CLOTH, 0, 99, 99, 10);
    }

    private static void part1WearsOfWoolByItsOwnPull() {
        wearing(WOOL, 0, 19, 19, 1);
        wearing(WOOL, 0, 20, 20, 2);
    }

    private static void part1WearsOfSilkIs1More() {
        wearing(SILK, 0, 5, 5, 2);
        wearing(SILK, 0, 6, 6, 3);
    }

    private static void part1WearsOfLinenInOddYears() {
        wearing(LINEN, 0, 0, 0, 1);
        wearing(LINEN, 9, 7, 7, 1);
        wearing(LINEN, 9, 8, 8, 2);
    }

    private static void part1WearsOfLinenIs0InEvenYears() {
        PatchesSameAge x = corner(LINEN, 9, 8, 8);
        int[] wear = {2, 2, 4, 4, 6};
        for (int year = 1; year <= 5; year++) {
            due("WEARS in YEAR " + year, x.cellOf(0, 5), year % 2 == 1 ? 2 : 0);
            x.years(1);
            due("WEAR behind YEAR " + year, x.cellOf(0, 3), wear[year - 1]);
        }
        PatchesSameAge y = Bounds.inYear(998);
        y.cell(0, LINEN, 0, 99);
        due("WEARS in YEAR 999", y.cellOf(0, 5), 1);
        y.years(1);
        due("WEARS in YEAR 1000, that may be in mind", y.cellOf(0, 5), 0);
        due("in mind", y.behind(0, 1, 0), 1);
        due("in mind", y.behind(0, 2, 0), 2);
    }

    private static void part1WearsOfPatchByItsOwnPull() {
        wearing(PATCH, 0, 5, 5, 1);
        wearing(PATCH, 0, 6, 6, 2);
    }

    private static void part1WearsOfCornIs1Less() {
        wearing(CORN, 0, 0, 0, 0);
        wearing(CORN, 0, 5, 5, 0);
        wearing(CORN, 0, 6, 6, 1);
        wearing(CORN, 1, 6, 6, 1);
        wearing(CORN, 2, 6, 6, 0);
    }

    // ---- I: HOLDS, HOLES

    private static void part1HoldsOfCloth() {
        hold(CLOTH, 0, 10);
        hold(CLOTH, 9, 19);
    }

    private static void part1HoldsOfWoolIs5More() {
        hold(WOOL, 0, 15);
        hold(WOOL, 9, 24);
    }

    private static void part1HoldsOfSilkIsHalfCut() {
        hold(SILK, 0, 5);
        hold(SILK, 1, 5);
        hold(SILK, 2, 6);
        hold(SILK, 9, 9);
    }

    private static void part1HoldsOfLinenIsAsAWool() {
        hold(LINEN, 0, 15);
        hold(LINEN, 9, 24);
    }

    private static void part1HoldsOfPatchIs5() {
        hold(PATCH, 0, 5);
        hold(PATCH, 9, 5);
    }

    private static void part1HoldsOfCornIsTwiceAPatch() {
        hold(CORN, 0, 10);
        hold(CORN, 9, 10);
    }

    // ---- I: a YEAR

    private static void part1AYearWearIs99AtMost() {
        PatchesSameAge x = told("c05050040;w0598;w0098;w1199;");
        x.years(1);
        due("98 and 9", x.cellOf(5, 3), 99);
        due("98 and 1", x.cellOf(0, 3), 99);
        due("99 and 1", x.cellOf(11, 3), 99);
        x.years(1);
        due("then", x.cellOf(0, 3), 99);
        PatchesSameAge y = told("w0097;");
        y.years(1);
        due("97 and 1", y.cellOf(0, 3), 98);
    }

    private static void part1AYearAgeIs99AtMost() {
        PatchesSameAge x = told("c00000099;c01010098;c02020097;");
        x.years(1);
        due("of 99", x.cellOf(0, 2), 99);
        due("of 98", x.cellOf(1, 2), 99);
        due("of 97", x.cellOf(2, 2), 98);
        due("of 0", x.cellOf(3, 2), 1);
    }

    private static void part1AYearAgesAreMoreBehindTheWear() {
        // 20 apart, as one is 99: PULL 20 wears 5; then 19 apart: 4
        PatchesSameAge x = told("c00110079;c05050099;");
        x.years(1);
        due("WEAR", x.cellOf(5, 3), 5);
        due("PULL then", x.cellOf(5, 4), 19);
        x.years(1);
        due("WEAR", x.cellOf(5, 3), 9);
    }

    private static void part1AYearAllCellsAtOnce() {
        // in a row 10 apart each: what is ahead of a CELL must not be older before it wears
        PatchesSameAge x = aged(99, 89, 79, 69, 99, 89, 79, 69, 99, 89, 79, 69);
        x.years(1);
        int[] wear = {1, 2, 2, 1, 1, 2, 2, 1, 1, 2, 2, 1};
        for (int cell = 0; cell < 12; cell++) due("WEAR of " + cell, x.cellOf(cell, 3), wear[cell]);
        due("PULL of 1 then", x.cellOf(1, 4), 4);
    }

    private static void part1AYearPiecesDoNotAge() {
        PatchesSameAge x = told("r0000;r0050;p100;");
        x.years(60);
        due("not used", x.pieceOf(0, 2), 0);
        due("used", x.pieceOf(1, 2), 50);
        x.puts(0, 5);
        due("the CELL is of its AGE", x.cellOf(5, 2), 0);
    }

    // ---- I: PUT

    private static void part1PutMakesACellNew() {
        PatchesSameAge x = told("c03035999;w0399;r2345;");
        x.puts(0, 3);
        int[] want = {2, 3, 45, 0};
        for (int what = 0; what < 4; what++) due("cellOf(3, " + what + ")", x.cellOf(3, what), want[what]);
        due("used", x.pieceOf(0, 3), 1);
        due("none not used", x.count(5), 0);
        due("the PIECE is as it was", x.pieceOf(0, 2), 45);
    }

    // ---- I: TROUSERS, what is told

    private static void part1TrousersCellsFromTheOneToTheOther() {
        PatchesSameAge x = told("w0050;w0350;w0450;w0850;w0950;c04085999;");
        for (int cell = 4; cell <= 8; cell++) {
            int[] want = {5, 9, 99, 0};
            for (int what = 0; what < 4; what++) due("cellOf(" + cell + ")", x.cellOf(cell, what), want[what]);
        }
        due("ahead of the one", x.cellOf(3, 3), 50);
        due("behind the other", x.cellOf(9, 3), 50);
        due("KIND ahead", x.cellOf(3, 0), 0);
        due("KIND behind", x.cellOf(9, 0), 0);
    }

    private static void part1TrousersAllCellsAndOneCell() {
        due("all", told("c00110001;").count(3), 12);
        due("the first", told("c00000001;").cellOf(0, 2), 1);
        due("the last", told("c11110001;").cellOf(11, 2), 1);
        due("one", told("c11110001;").count(3), 1);
    }

    private static void part1TrousersCellsTheFirstIsMore() {
        Bounds.faulty("c01000000;", -2000);
        Bounds.faulty("c11100000;", -2000);
        Bounds.faulty("c12000000;", -2000);
    }

    private static void part1TrousersCellsNoSuchCell() {
        Bounds.faulty("c11120000;", -2000);
        Bounds.faulty("c00120000;", -2000);
        Bounds.faulty("c12120000;", -2000);
        Bounds.faulty("c99990000;", -2000);
    }

    private static void part1TrousersCellsNoSuchKind() {
        due("5", tell(fresh(), "c00005000;"), 1);
        Bounds.faulty("c00006000;", -2000);
        Bounds.faulty("c00009000;", -2000);
    }

    private static void part1TrousersAPieceMore() {
        PatchesSameAge x = told("r0000;r5999;");
        due("KIND", x.pieceOf(1, 0), 5);
        due("FIGURE", x.pieceOf(1, 1), 9);
        due("AGE", x.pieceOf(1, 2), 99);
        due("not used", x.pieceOf(1, 3), 0);
        due("behind those that there are", tell(x, "r1234;"), 1);
        due("KIND", x.pieceOf(2, 0), 1);
    }

    private static void part1TrousersAPieceNoSuchKind() {
        Bounds.faulty("r6000;", -2000);
        Bounds.faulty("r9000;", -2000);
    }

    private static void part1TrousersAPieceNoRoom() {
        due("six", tell(fresh(), "r0000;".repeat(6)), 6);
        Bounds.faulty(Bounds::fresh, "r0000;".repeat(7), -2036);
        // five there are
        due("the sixth", tell(Bounds.richWithoutLetters(), "r0000;"), 1);
        Bounds.faulty("r0000;r0000;", -2006);
    }

    private static void part1TrousersAPutOfTheFirstAndTheLast() {
        PatchesSameAge x = told("r0001;r0000;r0000;r0000;r0000;r5992;p000;p511;");
        due("AGE of 0", x.cellOf(0, 2), 1);
        due("AGE of 11", x.cellOf(11, 2), 92);
        due("not used", x.count(5), 4);
    }

    private static void part1TrousersAPutNoSuchPiece() {
        Bounds.faulty("p500;", -2000);
        Bounds.faulty("p900;", -2000);
        Bounds.faulty(Bounds::fresh, "p000;", -2000);
        Bounds.faulty(Bounds::fresh, "p000;r0000;", -2000);
        Bounds.faulty(Bounds::fresh, "r0000;p100;", -2006);
        Bounds.faulty(() -> Bounds.pieces(6), "p600;", -2000);
    }

    private static void part1TrousersAPutNoSuchCell() {
        due("11", tell(Bounds.richWithoutLetters(), "p011;"), 1);
        Bounds.faulty("p012;", -2000);
        Bounds.faulty("p099;", -2000);
    }

    private static void part1TrousersAPutOfAUsedOne() {
        Bounds.faulty("p100;", -2000);
        Bounds.faulty("p000;p001;", -2005);
        Bounds.faulty("r0000;p500;p500;", -2011);
    }

    private static void part1TrousersWear() {
        PatchesSameAge x = told("w0099;w1199;w1100;");
        due("WEAR of 0", x.cellOf(0, 3), 99);
        due("WEAR of 11", x.cellOf(11, 3), 0);
    }

    private static void part1TrousersWearNoSuchCell() {
        Bounds.faulty("w1200;", -2000);
        Bounds.faulty("w9999;", -2000);
    }

    private static void part1TrousersYearsOneAndSixty() {
        due("YEAR", told("y01;").count(1), 1);
        due("YEAR", told("y60;").count(1), 60);
        due("WEAR", told("y60;").cellOf(0, 3), 60);
    }

    private static void part1TrousersYearsOutOfRange() {
        Bounds.faulty("y00;", -2000);
        Bounds.faulty("y61;", -2000);
        Bounds.faulty("y99;", -2000);
    }

    private static void part1TrousersYearsAbove999() {
        due("999", tell(Bounds.inYear(939), "y60;"), 1);
        due("999", tell(Bounds.inYear(998), "y01;"), 1);
        Bounds.faulty(() -> Bounds.inYear(940), "y60;", -2000);
        Bounds.faulty(() -> Bounds.inYear(999), "y01;", -2000);
        Bounds.faulty(() -> Bounds.inYear(960), "y39;y01;", -2004);
    }

    private static void part1TrousersEachBehindAllAheadOfIt() {
        PatchesSameAge x = told("w0530;c05050040;y01;r0000;p005;w0503;y02;");
        due("AGE", x.cellOf(5, 2), 2);
        due("WEAR: 1 a YEAR for 2 YEARS on 3", x.cellOf(5, 3), 5);
        due("WEAR beside: 3 in the first YEAR, then 1", x.cellOf(6, 3), 5);
    }

    // ---- I: TROUSERS, letters

    private static void part1TrousersAtLeastOneStatement() {
        Bounds.faulty("", -1000);
        due("again", fresh().trousers(), -1000);
    }

    private static void part1Trousers96Letters() {
        due("24 STATEMENTS", tell(fresh(), "y01;".repeat(24)), 24);
        Bounds.faulty("y01;".repeat(23) + "y01", -1095);
        Bounds.faulty("y01;".repeat(23) + "c000", -1096);
        Bounds.faulty("c".repeat(96), -1001);
    }

    private static void part1TrousersTheEndIfSomethingLacks() {
        for (String form : new String[] {"c00000000;", "r0000;", "p000;", "w0000;", "y01;"}) {
            for (int length = 1; length < form.length(); length++) {
                Bounds.faulty(form.substring(0, length), -1000 - length);
                Bounds.faulty("w0000;" + form.substring(0, length), -1006 - length);
            }
        }
    }

    private static void part1TrousersTheFirstLetterThatCanNot() {
        for (String form : new String[] {"c00000000;", "r0000;", "p000;", "w0000;", "y01;"}) {
            for (int place = 1; place < form.length(); place++) {
                String wrong = place == form.length() - 1 ? "0:<c" : "/:;c";
                for (char letter : wrong.toCharArray()) {
                    String text = form.substring(0, place) + letter + form.substring(place + 1);
                    Bounds.faulty(text, -1000 - place);
                    Bounds.faulty("w0000;" + text, -1006 - place);
                }
            }
        }
    }

    private static void part1TrousersEachDigitMayBe0To9() {
        due("0", tell(fresh(), "c00000000;"), 1);
        due("9", tell(fresh(), "c09095999;"), 1);
        due("a CELL of two digits, 9 behind", tell(fresh(), "w0999;"), 1);
        due("FIGURE 9", told("c00000900;").cellOf(0, 1), 9);
        due("AGE 90", told("c00000090;").cellOf(0, 2), 90);
        due("AGE 9", told("c00000009;").cellOf(0, 2), 9);
    }

    private static void part1TrousersNoStatementBeginsSo() {
        for (char letter : new char[] {0, '0', ';', 'b', 'd', 'o', 'q', 's', 'v', 'x', 'z', 'C', 'Y', 255}) {
            Bounds.faulty(letter + "01;", -1000);
            Bounds.faulty("y01;" + letter, -1004);
        }
    }

    private static void part1TrousersKind1AheadOfKind2() {
        Bounds.faulty("y00;q", -1004);
        Bounds.faulty("p900;r6000;c", -1012);
        Bounds.faulty("c1200", -1005);
    }

    private static void part1TrousersTheFirstOfSeveralFaultsOfKind2() {
        Bounds.faulty("y01;y00;p900;", -2004);
        Bounds.faulty("p900;y00;", -2000);
    }

    private static void part1TrousersWithAFaultNothingComes() {
        Bounds.faulty("c00115999;r0000;p000;w0099;y05;y00;", -2031);
        Bounds.faulty("c00115999;r0000;p000;w0099;y05;y", -1032);
    }

    // ---- II: in mind

    private static void part2NoYearsOnIsNow() {
        PatchesSameAge x = told("c05050040;w0511;");
        due("WEAR", x.behind(5, 0, 0), 11);
        due("PULL", x.behind(5, 0, 1), 40);
        due("a HOLE", x.behind(5, 0, 2), 1);
        due("HOLES", x.all(0, 0), 1);
        due("all WEAR", x.all(0, 1), 11);
        due("all PULL", x.all(0, 2), 80);
    }

    private static void part2SixtyYearsOn() {
        PatchesSameAge x = fresh();
        due("WEAR", x.behind(11, 60, 0), 60);
        due("HOLES", x.all(60, 0), 12);
        due("all WEAR", x.all(60, 1), 720);
    }

    private static void part2InMindWearAndAgeAre99AtMost() {
        PatchesSameAge x = told("c05050040;w0098;");
        due("WEAR behind 1", x.behind(0, 1, 0), 99);
        due("WEAR behind 2", x.behind(0, 2, 0), 99);
        due("PULL of 99 and 59", x.behind(5, 59, 1), 40);
        due("PULL of 99 and 60", x.behind(5, 60, 1), 39);
    }

    private static void part2InMindYearMayPass999() {
        PatchesSameAge x = Bounds.inYear(999);
        x.cell(0, CLOTH, 0, 99);
        due("WEAR", x.behind(0, 60, 0), 60);
        due("HOLES", x.all(60, 0), 12);
        due("LASTS", x.lasts(0), 10);
    }

    /** What is asked in mind stays there: each answer is that of an object of which nothing else was asked. */
    private static void part2AskedOneBehindAnotherAllAnswerTheSame() {
        Bounds.Call[] calls = {x -> x.behind(5, 60, 0), x -> x.all(60, 1), x -> x.holes(0), x -> x.holes(1),
            x -> x.holes(2), x -> x.lasts(0), x -> x.lasts(7), x -> x.fits(0, 0), x -> x.fits(3, 1), x -> x.bestPiece(4),
            x -> x.mend(), x -> x.keep(), x -> x.placed(-1), x -> x.placed(3), x -> x.when(2, 6), x -> x.turns(0),
            x -> x.turns(1), x -> x.whose(0, 0), x -> x.whose(0, 1), x -> x.whose(3, 2), x -> x.islands(20, 0),
            x -> x.islands(20, 1), x -> x.strip(0), x -> x.strip(1), x -> x.swap(), x -> x.chance(3, 8, 7, 0),
            x -> x.chance(3, 8, 7, 1), x -> x.oldest(0), x -> x.oldest(1), x -> x.tightest(0), x -> x.tightest(1),
            x -> x.ageFor(5), x -> x.entire(), x -> x.bestOf(0, 0), x -> x.bestOf(5, 1), x -> x.harm(2), x -> x.pairs(),
            x -> x.sumOf(1), x -> x.rank(3), x -> x.doomed(9), x -> x.mean(0), x -> x.mean(1), x -> x.younger(50),
            x -> x.unlike(), x -> x.lots(3, 9, 0), x -> x.lots(3, 9, 1), x -> x.cellOf(3, 4), x -> x.count(2)};
        PatchesSameAge x = Bounds.rich();
        PatchesSameAge y = Bounds.rich();
        for (int i = 0; i < calls.length; i++) {
            due("call " + i + " behind all ahead of it", calls[i].on(x), calls[i].on(Bounds.rich()));
            int j = calls.length - 1 - i;
            due("call " + j + " behind all behind it", calls[j].on(y), calls[j].on(Bounds.rich()));
        }
    }

    private static void part2FirstHoleNow() {
        PatchesSameAge x = told("w0710;w0509;");
        due("behind", x.holes(0), 0);
        due("CELL", x.holes(1), 7);
        PatchesSameAge y = told("w0709;");
        due("behind", y.holes(0), 1);
        due("CELL", y.holes(1), 7);
    }

    private static void part2FirstHoleOfSeveralTheLeast() {
        PatchesSameAge x = told("w1105;w0405;w0805;");
        due("behind", x.holes(0), 5);
        due("CELL", x.holes(1), 4);
    }

    private static void part2FirstHoleNever() {
        due("behind", told(NEVER).holes(0), -9);
        due("CELL", told(NEVER).holes(1), -9);
    }

    private static void part2LastsNowLateNever() {
        due("now", told("w0010;").lasts(0), 0);
        due("the next YEAR", told("w0009;").lasts(0), 1);
        // LINEN of FIGURE 9 holds 24 and wears 1 in odd YEARS: behind YEAR 1 first in YEAR 3
        due("at the latest", told("y01;c00003900;").lasts(0), 48);
        due("never", told(NEVER).lasts(0), -9);
    }

    private static void part2LastWholeNeverIsLatestOfAll() {
        due("one never", told("c00000900;c07075000;").holes(2), 7);
        due("two never", told("c00000900;c07075000;c10105000;").holes(2), 7);
        due("all never", told(NEVER).holes(2), 0);
    }

    private static void part2LastWholeOfSeveralTheLeast() {
        due("all alike", fresh().holes(2), 0);
        due("two", told("c04040900;c09090900;").holes(2), 4);
        due("the last", told("c11110100;").holes(2), 11);
        due("all are HOLES now", told("w0050;w0550;c00112000;c00112000;y60;").holes(2), 0);
    }

    // ---- II: FITS, BEST PIECE, MEND, KEEP

    private static void part2FitsOfSeveralTheLeast() {
        due("all", told("r0000;").fits(0, 0), 0);
        due("all", told("r0000;").fits(0, 1), 0);
        // 40 in a corner: 20 there, 10 at each of two BESIDE; the first corner
        due("a corner", told("r0040;").fits(0, 0), 0);
        due("a corner", told("r0040;").fits(0, 1), 40);
    }

    private static void part2FitsIsAsPutNow() {
        PatchesSameAge x = told("c10100040;r4040;");
        int cell = x.fits(0, 0);
        int pull = x.fits(0, 1);
        due("PUT so", x.puts(0, cell), pull);
    }

    private static void part2BestPieceNeverIsLongestOfAll() {
        due("never", told("r1900;r5000;r5000;").bestPiece(0), 1);
    }

    private static void part2BestPieceOfSeveralTheLeast() {
        due("all alike", told("r0000;r0000;").bestPiece(0), 0);
        due("the first of all", told("r0900;r0000;").bestPiece(0), 0);
        due("alike", told("r0000;r0100;r0100;r0000;").bestPiece(11), 1);
        due("alike, one used", told("r0000;r0100;r0100;p100;").bestPiece(11), 2);
    }

    private static void part2MendOneForEach() {
        due("no HOLES, no PIECES", fresh().mend(), 0);
        due("as many", told("w0010;w0110;r0000;r0000;").mend(), 3);
        due("one fewer", told("w0010;w0110;r0000;").mend(), -9);
        due("one more", told("w0010;w0110;r0000;r0000;r0000;").mend(), 3);
        due("one is used", told("w0010;w0110;r0000;r0000;r0000;p011;").mend(), 6);
    }

    private static void part2KeepLaterThanWithout() {
        due("later by much", told("w0509;r0000;").keep(), 5);
        due("two go together: not later", told("w0509;w0609;r0000;").keep(), -9);
        due("later than now", told("w0510;r0000;").keep(), 5);
        due("later by 1", told("w0001;r0000;").keep(), 0);
        due("as it was", told("r0000;").keep(), -9);
    }

    private static void part2KeepNeverIsLatestOfAll() {
        due("never", told(NEVER + "c08080900;r1900;r5000;").keep(), 108);
        due("never is not later than never", told(NEVER + "r5000;").keep(), -9);
    }

    private static void part2KeepOfSeveralTheLeast() {
        due("alike", told("w0009;r0000;r0000;").keep(), 0);
        due("the first is used", told("w1109;r0000;r0000;p000;").keep(), 111);
    }

    // ---- II: PLACED, WHEN, BY TURNS

    private static void part2PlacedNone() {
        due("none", fresh().placed(-1), -9);
    }

    private static void part2PlacedOnUnlikeCells() {
        // both on 5 would leave no PULL
        PatchesSameAge x = told("c05050040;r0040;r0000;");
        due("that", x.placed(-1), 40);
        due("PIECE 0", x.placed(0), 0);
        due("PIECE 1", x.placed(1), 5);
    }

    private static void part2PlacedThreeAndFour() {
        PatchesSameAge x = Bounds.pieces(3);
        due("three", x.placed(-1), 0);
        due("PIECE 2", x.placed(2), 2);
        x.piece(0, 0, 0);
        due("four", x.placed(-1), -3);
        x.puts(1, 0);
        due("three of four", x.placed(-1), 0);
        due("a used one", x.placed(1), -9);
        due("the last of them", x.placed(3), 2);
    }

    private static void part2PlacedOfSeveralTheFirst() {
        due("one", told("r0000;").placed(0), 0);
        PatchesSameAge x = Bounds.pieces(3);
        for (int piece = 0; piece < 3; piece++) due("PIECE " + piece, x.placed(piece), piece);
        // one old one in a corner, the other two where they change nothing
        PatchesSameAge y = told("r0000;r0040;r0000;");
        due("that", y.placed(-1), 40);
        due("PIECE 0: the least CELL", y.placed(0), 0);
        due("PIECE 1: the least corner that is left", y.placed(1), 3);
        due("PIECE 2: the least CELL that is left", y.placed(2), 1);
    }

    private static void part2WhenNowAndThirty() {
        due("never by now", told("r5000;").when(0, 0), 0);
        // behind 30 it is as old as all else, behind 31 it would last one YEAR more
        due("30 at most", told("r0030;").when(0, 0), 30);
    }

    private static void part2WhenSixtyCountsSixtyOneIsNever() {
        // LINEN that HOLDS 16 wears 1 in YEARS 31, 33 .. 61, put in YEAR 29 or 30: a HOLE behind 60, counted from YEAR 1
        due("60 counts", told("y01;r3120;").when(0, 0), 30);
        // that HOLDS 17, in YEARS 29, 31 .. 61, put in YEAR 27 or 28: behind 61, counted from YEAR 0
        due("61 is never", told("r3220;").when(0, 0), 27);
    }

    private static void part2WhenOfSeveralTheLeast() {
        due("each is never", told(NEVER + "r5000;").when(0, 5), 0);
        // put behind 19 it wears 1 a YEAR: a HOLE behind 29; by 29, PULL 9, 2 a YEAR: 34; by 30, PULL 10, 3 a YEAR: 34
        due("10 years old", told("r0010;").when(0, 0), 29);
    }

    private static void part2TurnsOneTwoThree() {
        due("one: that", told("c11110040;r0000;").turns(0), 0);
        due("one: where", told("c11110040;r0000;").turns(1), 11);
        // the old one in a corner: 40; else the other puts it in the midst: 80
        due("two: that", told("r0000;r0040;").turns(0), 40);
        due("two: where", told("r0000;r0040;").turns(1), 100);
        due("three: that", told("r0000;r0000;r0040;").turns(0), 40);
        due("three: where", told("r0000;r0000;r0040;").turns(1), 200);
    }

    private static void part2TurnsTheThirdIsTheFirstsAgain() {
        // the first puts the old one in a corner, the other changes nothing, the first then puts one where all PULL is: 40;
        // the old one there between two PATCHES: 60; else the other puts it in the midst
        PatchesSameAge x = told("c00000099;c01014000;c04044000;r0000;r0000;r0040;");
        due("that", x.turns(0), 40);
        due("where", x.turns(1), 203);
    }

    private static void part2TurnsMoreThanThree() {
        due("four", Bounds.pieces(4).turns(0), -3);
        due("four, one used", told("r0000;r0000;r0000;r0000;p311;").turns(1), 0);
    }

    private static void part2TurnsNotWhereOneWasPut() {
        // PATCHES around 5: the old one there again would come to 120, elsewhere 80 at most
        PatchesSameAge x = told("c05050040;c01014000;c04044000;c06064000;c09094000;r0000;r0040;");
        due("that", x.turns(0), 80);
        due("where", x.turns(1), 5);
    }

    private static void part2TurnsOfSeveralTheLeast() {
        due("all alike", told("r0000;r0000;").turns(1), 0);
        due("two corners", told("c03030040;c08080040;r0000;p000;r0000;").turns(1), 103);
    }

    // ---- II: WHOSE, ISLANDS, STRIP, SWAP

    private static void part2WhoseByTheWearOfNow() {
        PatchesSameAge x = told("w0007;");
        x.row(0);
        due("0 YEARS are now: not so", x.whose(0, 0), 0);
        x.clear();
        x.row(7);
        due("KINDS", x.whose(0, 0), 63);
        due("FIGURES", x.whose(0, 1), 1023);
        due("AGES", x.whose(0, 2), 100);
    }

    private static void part2WhoseOfATwelfth() {
        PatchesSameAge x = fresh();
        for (int wear = 0; wear < 11; wear++) x.row(wear);
        // CLOTH, WOOL, PATCH wear 1 a YEAR; AGES up to 9 PULL 4 at a corner
        x.row(11);
        due("KINDS", x.whose(0, 0), 1 + 2 + 16);
        due("FIGURES", x.whose(0, 1), 1023);
        due("AGES", x.whose(0, 2), 10);
        x.clear();
        for (int wear = 0; wear < 11; wear++) x.row(wear);
        x.row(12);
        due("the last is not so: KINDS", x.whose(0, 0), 0);
        due("the last is not so: FIGURES", x.whose(0, 1), 0);
        due("the last is not so: AGES", x.whose(0, 2), 0);
    }

    private static void part2WhoseTheLeastAndTheGreatest() {
        PatchesSameAge x = told("c00115000;");
        x.row(0);
        x.row(0);
        // CORN of AGE a at a corner PULLS 2 times a over 2, cut: below 5 up to 5
        due("AGES 0 .. 5", x.whose(0, 2), 6);
        due("only CORN", x.whose(0, 0), 32);
        PatchesSameAge y = fresh();
        y.row(0);
        y.row(10);
        // CLOTH of 90 .. 99 at a corner PULLS 45 .. 49
        due("AGES 90 .. 99", y.whose(0, 2), 10);
        // CORN of 99 at a corner PULLS 98 less FIGURE, by 9 alone less than 90, and wears 17
        PatchesSameAge z = told("c00005099;");
        z.row(0);
        z.row(17);
        due("FIGURE 9", z.whose(0, 1), 512);
    }

    private static void part2IslandsByVOrLess() {
        PatchesSameAge x = told("c05050007;");
        due("6: two heaps", x.islands(6, 0), 2);
        due("6: the most", x.islands(6, 1), 11);
        due("7: one heap", x.islands(7, 0), 1);
        due("7: the most", x.islands(7, 1), 12);
    }

    private static void part2IslandsNotRoundTheRim() {
        // of one AGE: 3 and 4, 7 and 8; 0 and 8
        due("rows end", aged(10, 20, 30, 99, 99, 40, 50, 60, 60, 70, 80, 90).islands(0, 0), 12);
        due("columns end", aged(1, 11, 21, 31, 41, 51, 61, 71, 1, 12, 22, 32).islands(0, 0), 12);
    }

    private static void part2IslandsALongWayRound() {
        // 0 1 2 3 7 11 10 9 8 hang together, 4 and 5, 6 by themselves
        PatchesSameAge x = aged(5, 5, 5, 5, 50, 90, 90, 5, 5, 5, 5, 5);
        due("heaps", x.islands(0, 0), 3);
        due("the most", x.islands(0, 1), 9);
        // 0 4 8 9 10 6 2: down, to the right and up again
        PatchesSameAge y = aged(5, 50, 5, 60, 5, 70, 5, 80, 5, 5, 5, 90);
        due("heaps", y.islands(0, 0), 6);
        due("the most", y.islands(0, 1), 7);
    }

    private static void part2StripOneToFour() {
        PatchesSameAge one = aged(3, 2, 1, 0, 3, 2, 1, 0, 3, 2, 1, 0);
        due("1", one.strip(0), 1);
        due("1: first", one.strip(1), 0);
        PatchesSameAge two = aged(3, 2, 1, 0, 3, 2, 1, 0, 3, 2, 1, 1);
        due("2", two.strip(0), 2);
        due("2: first", two.strip(1), 10);
        PatchesSameAge three = aged(3, 2, 2, 3, 3, 2, 1, 0, 3, 2, 1, 1);
        due("3", three.strip(0), 3);
        due("3: first", three.strip(1), 1);
        PatchesSameAge four = aged(3, 2, 2, 3, 0, 0, 99, 99, 1, 2, 3, 4);
        due("4", four.strip(0), 4);
        due("4: first", four.strip(1), 4);
    }

    private static void part2StripEndsWithItsRow() {
        PatchesSameAge x = aged(9, 0, 9, 9, 9, 9, 0, 0, 0, 0, 9, 0);
        due("how long", x.strip(0), 3);
        due("first", x.strip(1), 1);
    }

    private static void part2SwapLessThanNow() {
        due("as much is not less", told("c00000040;").swap(), -9);
        due("less", told("c05050040;").swap(), 5);
    }

    private static void part2SwapOfSeveralTheFirst() {
        due("four corners", told("c06060040;").swap(), 6);
    }

    private static void part2SwapOfTheLastTwo() {
        due("SILK to the last corner", told("c00002000;c03032000;c08082000;c10102000;").swap(), 1011);
    }

    private static void part2SwapAllTheyAre() {
        // a PATCH of 40 in the midst among PATCHES: KIND and AGE go together
        PatchesSameAge x = told("c05054040;");
        due("to a corner", x.swap(), 5);
        due("nothing changed", x.cellOf(5, 0), 4);
        // CORN of FIGURE 9 PULLS as much in each corner: FIGURE goes with it
        due("FIGURE too", told("c00005000;c03030900;c05055940;").swap(), 5);
    }

    // ---- II: CHANCE, JUDGED, LOTS, DRAWS

    private static void part2ChanceNoYearsAndEight() {
        due("none: above", told("w0009;").chance(0, 0, 2, 0), 0);
        due("none: below", told("w0009;").chance(0, 0, 2, 1), 1);
        due("now: above", told("w0010;").chance(0, 0, 2, 0), 1);
        due("now, behind eight: below", told("w0010;").chance(0, 8, 20, 1), 1);
        due("each of eight: below", told("w0002;").chance(0, 8, 2, 1), 256);
        // any but none of eight, 20 to the 8 less 1
        due("one of eight: above", told("w0009;").chance(0, 8, 20, 0), 25599999999L);
        due("one of eight: below", told("w0009;").chance(0, 8, 20, 1), 25600000000L);
    }

    private static void part2ChanceAllElseGoesOn() {
        // LINEN wears in YEARS 1 and 3, whether it was spared or not
        due("both: above", told("c00003000;w0013;").chance(0, 3, 2, 0), 1);
        due("both: below", told("c00003000;w0013;").chance(0, 3, 2, 1), 4);
        // 20 apart as one is 99: it wears 5, then 4, whether it was spared or not: behind two 5 or more by the first alone
        PatchesSameAge x = told("c00110079;c05050099;w0505;");
        due("the first: above", x.chance(5, 2, 4, 0), 3);
        due("the first: below", x.chance(5, 2, 4, 1), 4);
    }

    private static void part2ChanceIsToldInLowestTerms() {
        // one of two YEARS at least, odds 1 in 2: 3 in 4; one YEAR, 1 in 20 spared: 19 in 20; both, 1 in 4 spared: 9 in 16
        due("above", told("w0009;").chance(0, 2, 2, 0), 3);
        due("below", told("w0009;").chance(0, 2, 2, 1), 4);
        due("above", told("w0008;").chance(0, 2, 4, 0), 9);
        due("below", told("w0008;").chance(0, 2, 4, 1), 16);
        // two or three of three, odds 1 in 4: 27 and 27 of 64
        due("above", told("w0008;").chance(0, 3, 4, 0), 27);
        due("below", told("w0008;").chance(0, 3, 4, 1), 32);
    }

    private static void part2JudgedOfNoneAndTwelve() {
        PatchesSameAge x = fresh();
        due("none", x.judge(), -9);
        for (int i = 0; i < 12; i++) x.row(0);
        due("twelve, all so", x.judge(), -9);
        for (int i = 0; i < 11; i++) x.row(0);
        x.row(1);
        due("twelve, all but the last", x.judge(), 11);
        x.row(1);
        x.row(1);
        due("the first that is not so", x.judge(), 0);
    }

    private static void part2LotsOneAndTwentyLives() {
        PatchesSameAge x = fresh();
        int one = x.lots(1, 5, 1);
        int two = x.lots(2, 5, 1);
        due("the second life goes on with the DRAWS", two, one + wearOf(5, 1));
        int twenty = 0;
        for (int life = 0; life < 20; life++) twenty += wearOf(5, life);
        due("twenty", x.lots(20, 5, 1), twenty);
    }

    /** All WEAR behind 20 YEARS of CLOTH whose AGES are the DRAWS of one life, made here by longs. */
    private static int wearOf(int seed, int life) {
        long z = seed;
        int[] ages = new int[12];
        for (int i = 0; i < 12 * (life + 1); i++) {
            z = z * 1103515245L + 12345L & 0xffffffffL;
            ages[i % 12] = (int) ((z & 0x7fffffffL) / 65536 % 60);
        }
        PatchesSameAge y = aged(ages);
        y.years(20);
        return y.count(4);
    }

    private static void part2LotsEachFromNow() {
        // LINEN wears in odd YEARS alone; WEAR, KIND, FIGURE are those of now
        PatchesSameAge x = told("y01;c00113000;w0090;");
        int[] ages = {38, 58, 33, 55, 31, 47, 30, 39, 12, 6, 49, 47};
        PatchesSameAge y = told("y01;");
        for (int cell = 0; cell < 12; cell++) y.cell(cell, LINEN, 0, ages[cell]);
        y.wears(0, 90);
        y.years(20);
        due("WEAR", x.lots(1, 1, 1), y.count(4));
        due("HOLES", x.lots(1, 1, 0), Integer.bitCount(y.count(2)));
        due("20 YEARS, not more", told(NEVER).lots(1, 1, 1), wearOfCorn(ages));
    }

    private static int wearOfCorn(int[] ages) {
        PatchesSameAge y = fresh();
        for (int cell = 0; cell < 12; cell++) y.cell(cell, CORN, 0, ages[cell]);
        y.years(20);
        return y.count(4);
    }

    private static void part2DrawsWrapAndAreWithoutTheSign() {
        int[] of2 = {8, 17, 39, 14, 37, 35, 36, 25, 22, 11, 25, 51};
        int[] ofMinus1 = {29, 29, 22, 18, 13, 26, 20, 23, 52, 14, 53, 49};
        int[] of0 = {0, 48, 28, 37, 18, 7, 25, 1, 2, 10, 21, 52};
        drawn(2, of2);
        drawn(-1, ofMinus1);
        drawn(Bounds.GREATEST, ofMinus1);
        drawn(0, of0);
        drawn(Bounds.LEAST, of0);
    }

    private static void drawn(int z, int[] ages) {
        PatchesSameAge y = aged(ages);
        y.years(20);
        due("WEAR by seed " + z, fresh().lots(1, z, 1), y.count(4));
    }

    // ---- III: TAKEN BACK

    private static void part3TakenBackCountsThoughAllStays() {
        PatchesSameAge x = told("r0000;");
        x.cell(0, 0, 0, 0);
        due("cell()", x.count(8), 1);
        x.wears(0, 0);
        due("wears()", x.count(8), 2);
        x.puts(0, 0);
        due("puts()", x.count(8), 3);
        x.years(1);
        due("years()", x.count(8), 4);
        due("years", x.back(), 3);
        due("YEAR", x.count(1), 0);
        due("puts", x.back(), 2);
        due("not used", x.pieceOf(0, 3), 0);
        due("wears", x.back(), 1);
        due("cell", x.back(), 0);
    }

    private static void part3TakenBackTheLatestFirst() {
        PatchesSameAge x = told("r1234;c05054321;w0504;");
        x.wears(5, 3);
        x.cell(5, 2, 8, 60);
        x.puts(0, 5);
        x.years(3);
        x.back();
        int[][] want = {{1, 2, 34, 0}, {2, 8, 60, 0}, {4, 3, 21, 3}, {4, 3, 21, 4}};
        for (int i = 0; i < 4; i++) {
            for (int what = 0; what < 4; what++) due("step " + i + ", cellOf", x.cellOf(5, what), want[i][what]);
            due("used", x.pieceOf(0, 3), i == 0 ? 1 : 0);
            due("back", x.back(), i == 3 ? -3 : 2 - i);
        }
    }

    private static void part3TakenBackEightAtMost() {
        PatchesSameAge x = fresh();
        for (int i = 1; i <= 8; i++) {
            x.wears(0, i);
            due("count(8)", x.count(8), i);
        }
        x.wears(0, 9);
        due("the ninth", x.count(8), 8);
        for (int i = 0; i < 8; i++) x.back();
        due("the first is no more", x.cellOf(0, 3), 1);
        due("back", x.back(), -3);
    }

    private static void part3TakenBackAgainAndAgain() {
        PatchesSameAge x = fresh();
        for (int i = 1; i <= 20; i++) {
            x.wears(0, i);
            x.wears(0, 50);
            x.back();
            due("WEAR", x.cellOf(0, 3), i);
        }
        due("count(8)", x.count(8), 7);
        for (int i = 19; i >= 13; i--) {
            x.back();
            due("WEAR", x.cellOf(0, 3), i);
        }
        due("none", x.back(), -3);
    }

    private static void part3TakenBackNotByOtherCalls() {
        PatchesSameAge x = fresh();
        x.wears(0, 1);
        x.row(5);
        x.feed('y');
        x.image();
        due("count(8)", x.count(8), 1);
        x.back();
        due("the ROW stays", x.count(7), 1);
        due("letters stay", x.count(6), 1);
        due("the image stays", x.restore(), 0);
        due("WEAR of the image", x.cellOf(0, 3), 1);
    }

    private static void part3PieceLeavesNone() {
        PatchesSameAge x = Bounds.richWithoutLetters();
        due("count(8)", x.count(8), 5);
        x.piece(0, 0, 0);
        due("count(8)", x.count(8), 0);
        due("back", x.back(), -3);
    }

    private static void part3PieceRefusedLeavesThem() {
        Bounds.refused(-2, x -> x.piece(6, 0, 0));
        Bounds.refused(Bounds::full, -6, x -> x.piece(0, 0, 0));
        due("count(8)", Bounds.full().count(8), 8);
    }

    private static void part3TrousersLeaveNone() {
        PatchesSameAge x = Bounds.richWithoutLetters();
        due("STATEMENTS", tell(x, "w0000;"), 1);
        due("count(8)", x.count(8), 0);
        due("back", x.back(), -3);
    }

    private static void part3TrousersWithAFaultLeaveThem() {
        PatchesSameAge x = Bounds.richWithoutLetters();
        tell(x, "w0000;w1200;");
        due("count(8)", x.count(8), 5);
        tell(x, "w0000;w");
        due("count(8)", x.count(8), 5);
        tell(x, "");
        due("count(8)", x.count(8), 5);
        due("back", x.back(), 4);
    }

    private static void part3RestoreLeavesNone() {
        PatchesSameAge x = Bounds.richWithoutLetters();
        x.restore();
        due("count(8)", x.count(8), 0);
        due("back", x.back(), -3);
    }

    private static void part3RestoreRefusedLeavesThem() {
        Bounds.refused(Bounds::full, -3, x -> x.restore());
    }

    // ---- III: OLDEST, MEDIAN, TIGHTEST, AGE FOR, ENTIRE

    private static void part3OldestOfSeveralTheLeast() {
        due("all", fresh().oldest(0), 0);
        due("two", told("c04040099;c11110099;").oldest(0), 4);
        due("the second", told("c01010001;").oldest(0), 1);
        due("the last", told("c11110001;").oldest(0), 11);
    }

    private static void part3MedianIsTheSixth() {
        due("of 1 .. 12", aged(12, 1, 11, 2, 10, 3, 9, 4, 8, 5, 7, 6).oldest(1), 6);
        due("five are less", aged(0, 0, 0, 0, 0, 7, 7, 7, 7, 7, 7, 7).oldest(1), 7);
        due("six are less", aged(0, 0, 0, 0, 0, 0, 7, 7, 7, 7, 7, 7).oldest(1), 0);
        due("of the last alone", told("c11110099;").oldest(1), 0);
    }

    private static void part3TightestOfSeveralTheFirst() {
        due("none are apart", fresh().tightest(0), 1);
        due("how far", fresh().tightest(1), 0);
        due("to the right ahead of below", told("c00000009;").tightest(0), 1);
        due("above, left, right, below", told("c06060009;").tightest(0), 206);
        due("not the end of a row and the next one's", told("c03030099;c04040000;c02020050;").tightest(0), 307);
    }

    private static void part3TightestOfTheLastTwo() {
        due("10 and 11", told("c11110050;c07070050;").tightest(0), 307);
        due("10 and 11", told("c11110050;c07070025;").tightest(0), 1011);
        due("how far", told("c11110099;").tightest(1), 99);
    }

    private static void part3AgeForTheLeastAndTheGreatest() {
        due("0", fresh().ageFor(5), 0);
        due("0 at a corner, where 1 apart PULLS nothing", fresh().ageFor(0), 0);
        due("99", told("c00110099;").ageFor(5), 99);
        due("whatever it is now", told("c05050099;").ageFor(5), 0);
    }

    private static void part3AgeForOfSeveralTheLeast() {
        // at a corner 1 younger PULLS nothing
        due("98", told("c00110099;").ageFor(0), 98);
        due("49", told("c00110050;").ageFor(11), 49);
    }

    private static void part3EntireBelowWhatIsCut() {
        // a corner 3 apart from two PULLS 1, those two nothing; 4 apart, they 1 each
        due("3 apart", told("c00000003;").entire(), 11);
        due("4 apart", told("c00000004;").entire(), 9);
        due("1 apart", told("c00000001;").entire(), 12);
    }

    // ---- IV

    private static void part4BestKindNeverIsLongest() {
        due("CORN never is a HOLE", told("c11110900;").bestOf(11, 0), 5);
        due("nor by less", told("w1109;").bestOf(11, 0), 5);
    }

    private static void part4BestKindOfSeveralTheLeast() {
        due("HOLES all", told("w1199;").bestOf(11, 0), 0);
        // WOOL and LINEN hold 15 and wear 1 in YEAR 1
        due("WOOL and LINEN", told("w1114;").bestOf(11, 0), 1);
        due("LINEN in an even YEAR", told("y01;w1114;").bestOf(11, 0), 3);
    }

    private static void part4BestFigureOfSeveralTheLeast() {
        due("CORN: any", told(NEVER).bestOf(0, 1), 0);
        due("PATCH: any", told("c00004000;").bestOf(0, 1), 0);
        due("HOLES all", told("w0019;").bestOf(0, 1), 0);
        due("9 alone is none", told("w0018;").bestOf(0, 1), 9);
        // SILK holds half of 18 or 19, both 9
        due("8 and 9", told("c00002000;").bestOf(0, 1), 8);
    }

    private static void part4BestFigureNeverIsLongest() {
        // CORN of 6 at a corner: PULL 6 less FIGURE, below 5 by 2
        due("2 .. 9 never", told(NEVER + "c00005006;").bestOf(0, 1), 2);
    }

    private static void part4HarmOfTwoBesideTheLesser() {
        PatchesSameAge x = told("c01014040;c04040020;");
        // at 20: 15 -> 5 there, 60 -> 50 at 1, 15 -> 10 at 4
        due("harm(0)", x.harm(0), 25);
    }

    private static void part4HarmOfThreeBesideTheMiddle() {
        PatchesSameAge x = aged(10, 90, 30, 0, 0, 60, 0, 0, 0, 0, 0, 0);
        // at 30: 42 -> 12 there, 22 -> 7 at 0, 30 -> 15 at 2, 52 still at 5
        due("harm(1)", x.harm(1), 60);
    }

    private static void part4HarmOfFourBesideTheSecond() {
        PatchesSameAge x = aged(0, 8, 0, 0, 16, 80, 24, 0, 0, 32, 0, 0);
        x.cell(9, PATCH, 0, 32);
        // at 16 (8, 16, 24, 32): 60 -> 8 there, 22 -> 6 at 1, 24 -> 8 at 4, 32 -> 20 at 6, 56 -> 40 at 9
        due("harm(5)", x.harm(5), 52 + 16 + 16 + 12 + 16);
    }

    private static void part4HarmMayBeBelow0() {
        due("harm(0)", aged(20, 10, 10, 0, 30, 10, 0, 0, 30, 0, 0, 0).harm(0), -1);
        due("none", fresh().harm(0), 0);
    }

    private static void part4PairsOfOneKindNotUnderIt() {
        due("WOOL and CLOTH", told("c00001000;").pairs(), 15);
        due("all LINEN", told("c00113000;").pairs(), 17);
        due("WOOL and LINEN", told("c00111000;c00003000;").pairs(), 15);
        due("the end of a row and the next one's", told("c03041000;").pairs(), 12);
    }

    private static void part4SumOfRowTheThreeRows() {
        PatchesSameAge x = aged(1, 0, 0, 2, 4, 0, 0, 8, 16, 0, 0, 32);
        due("0", x.sumOf(0), 3);
        due("1", x.sumOf(1), 12);
        due("2", x.sumOf(2), 48);
    }

    private static void part4RankTheMostFirstOfSeveralTheLeast() {
        PatchesSameAge x = told("w1105;w0405;w0006;");
        int[] want = {0, 4, 11, 1, 2, 3, 5, 6, 7, 8, 9, 10};
        for (int i = 0; i < 12; i++) due("rank(" + i + ")", x.rank(i), want[i]);
        due("rank(12)", x.rank(12), -9);
    }

    private static void part4DoomedWithinButNotNow() {
        PatchesSameAge x = told("w0010;w0109;w0208;");
        due("0", x.doomed(0), 0);
        due("1", x.doomed(1), 2);
        due("2", x.doomed(2), 6);
        due("9", x.doomed(9), 6);
        due("10", x.doomed(10), 4094);
        due("60", x.doomed(60), 4094);
        due("never", told(NEVER).doomed(60), 0);
    }

    private static void part4MeanInLowestTerms() {
        mean(0, 0, 1);
        mean(1, 1, 12);
        mean(8, 2, 3);
        mean(11, 11, 12);
        mean(12, 1, 1);
        mean(99, 33, 4);
        PatchesSameAge x = told("c00110099;");
        due("all 99: above", x.mean(0), 99);
        due("all 99: below", x.mean(1), 1);
    }

    private static void mean(int age, int above, int below) {
        PatchesSameAge x = fresh();
        x.cell(0, 0, 0, age);
        due(age + " over 12: above", x.mean(0), above);
        due(age + " over 12: below", x.mean(1), below);
    }

    private static void part4YoungerAgesAre99AtMost() {
        // 40 apart up to 59 more, 36 by 63
        PatchesSameAge x = Bounds.oneOld();
        due("59", x.younger(59), 0);
        // 99 and 60: 39 wears 8, then 38 wears 8: 16; now 9 and 9: both behind 2
        due("60", x.younger(60), 0);
        due("94: 5 apart", x.younger(94), 2 - 9);
    }

    private static void part4YoungerNeverIs61() {
        due("behind 1 now, never then", told(NEVER + "c05055040;").younger(99), 1 - 61);
        due("never in both", told(NEVER).younger(99), 0);
        due("now in both", told("w0010;").younger(99), 0);
    }

    private static void part4UnlikeOneAndTwelve() {
        due("one", told("c00110099;").unlike(), 1);
        due("two", told("c11110001;").unlike(), 2);
        due("twelve", aged(0, 1, 2, 3, 4, 5, 6, 7, 8, 9, 10, 11).unlike(), 12);
    }

    // ---- THE IMAGE

    private static void imageOfCellsYearAndRoll() {
        PatchesSameAge x = told("c05054321;w0507;r1234;r2345;p100;y09;");
        x.image();
        tell(x, "c00115999;w0099;r0000;p001;y60;");
        due("restore", x.restore(), 9);
        due("KIND", x.cellOf(5, 0), 4);
        due("FIGURE", x.cellOf(5, 1), 3);
        due("AGE", x.cellOf(5, 2), 30);
        due("KIND where one was PUT", x.cellOf(0, 0), 2);
        due("PIECES", x.count(0), 2);
        due("not used", x.pieceOf(0, 3), 0);
        due("used", x.pieceOf(1, 3), 1);
        due("YEAR", x.count(1), 9);
        // PULL 42 wears 9 a YEAR, for 9 YEARS on 7
        due("WEAR", x.cellOf(5, 3), 88);
    }

    private static void imageNotOfLetters() {
        PatchesSameAge x = fresh();
        Bounds.feedAll(x, "y0");
        x.image();
        Bounds.feedAll(x, "2;");
        x.restore();
        due("letters", x.count(6), 4);
        due("they are as they were", x.trousers(), 1);
        due("YEAR", x.count(1), 2);
        x.feed('y');
        x.restore();
        due("letters", x.count(6), 1);
    }

    private static void imageNotOfTheRow() {
        PatchesSameAge x = fresh();
        x.row(0);
        x.image();
        x.row(0);
        x.restore();
        due("the ROW", x.count(7), 2);
        x.clear();
        x.restore();
        due("the ROW", x.count(7), 0);
    }

    private static void imageNotOfRefusals() {
        PatchesSameAge x = fresh();
        x.back();
        x.image();
        x.back();
        x.back();
        x.restore();
        due("REFUSALS -3", x.count(13), 3);
    }

    private static void imageNotOfItself() {
        PatchesSameAge x = fresh();
        x.image();
        x.years(1);
        x.restore();
        due("it is there still", x.restore(), 0);
        x.years(5);
        due("taken", x.image(), 5);
        x.years(5);
        due("the latest", x.restore(), 5);
        due("the latest again", x.restore(), 5);
    }

    private static void imageIsNotChangedBehindIt() {
        PatchesSameAge x = told("r0000;");
        x.image();
        x.puts(0, 5);
        x.cell(5, 0, 0, 99);
        x.wears(5, 99);
        x.years(60);
        x.restore();
        due("not used", x.count(5), 1);
        due("AGE", x.cellOf(5, 2), 0);
        due("WEAR", x.cellOf(5, 3), 0);
        x.cell(5, 0, 0, 98);
        x.puts(0, 5);
        x.restore();
        due("not used", x.count(5), 1);
        due("AGE", x.cellOf(5, 2), 0);
    }

    // ---- REFUSALS

    private static void refusalsOfEachNumberAreCountedByThemselves() {
        Bounds.Call[] calls = {x -> x.lasts(12), x -> x.holes(3), x -> x.back(), x -> x.rank(-1), null, x -> x.row(100)};
        for (int i = 0; i < 6; i++) {
            if (calls[i] == null) continue;
            PatchesSameAge x = fresh();
            due("answers", calls[i].on(x), -1 - i);
            for (int j = 0; j < 6; j++) due("count(" + (11 + j) + ")", x.count(11 + j), j == i ? 1 : 0);
        }
    }

    private static void refusalsNoneIsCountedForNone() {
        PatchesSameAge x = told(NEVER);
        Bounds.dues(x, -9, y -> y.holes(0), y -> y.lasts(0), y -> y.bestPiece(0), y -> y.keep(), y -> y.placed(-1),
            y -> y.turns(0), y -> y.turns(1), y -> y.swap(), y -> y.rank(12), y -> y.judge(), y -> y.count(9));
        for (int what = 11; what <= 16; what++) due("count(" + what + ")", x.count(what), 0);
    }

    private static void refusalsOfLongsAreCounted() {
        PatchesSameAge x = fresh();
        due("-1", x.chance(12, 0, 2, 0), 4000000000000000001L);
        due("-2", x.mean(2), 4000000000000000002L);
        due("-4", x.chance(0, -1, 2, 0), 4000000000000000004L);
        due("-6", x.chance(0, 9, 2, 0), 4000000000000000006L);
        int[] want = {1, 1, 0, 1, 0, 1};
        for (int i = 0; i < 6; i++) due("count(" + (11 + i) + ")", x.count(11 + i), want[i]);
    }

    private static void refusalsOfHarmAndYoungerAreCounted() {
        PatchesSameAge x = fresh();
        due("-1", x.harm(12), 1000000001);
        due("-4", x.younger(-1), 1000000004);
        due("-6", x.younger(100), 1000000006);
        int[] want = {1, 0, 0, 1, 0, 1};
        for (int i = 0; i < 6; i++) due("count(" + (11 + i) + ")", x.count(11 + i), want[i]);
    }
}
