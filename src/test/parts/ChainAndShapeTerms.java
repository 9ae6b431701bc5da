/** The document's terms of the chain and of shapes. */
final class ChainAndShapeTerms {
    private static final int NONE = FailDiagnose.NONE;

    private ChainAndShapeTerms() {
    }

    static void tests(Sentences s) {
        s.section("Terms");
        String cells = "THE CHAIN has cells 0, 1, .. (64 at most), and ROWS that were caught in it: what each cell "
                + "should have had, and what came out (a bit for each cell)";
        s.test(cells, ChainAndShapeTerms::oneCell);
        s.test(cells, ChainAndShapeTerms::sixtyFourCells);
        s.test(cells, ChainAndShapeTerms::bitsBehindTheCells);
        String stuck = "If cell c is stuck at v, cells up to c come out as v, those behind as they should";
        s.test(stuck, ChainAndShapeTerms::eachCellOfEachChain);
        s.test(stuck, ChainAndShapeTerms::cellsThatShouldBeSo);
        s.test(stuck, ChainAndShapeTerms::aCellBehindThatIsNotAsItShould);
        s.test("SHAPES of nets are rectangles, 60 at most", ChainAndShapeTerms::sixtyShapesOfAllNets);
        String grown = "GROWN by g they go g further on all four sides";
        s.test(grown, ChainAndShapeTerms::fourSides);
        s.test(grown, ChainAndShapeTerms::grownBeyondTheCoordinates);
        String once = "AREA is what all grown shapes of a net cover, each point once";
        s.test(once, ChainAndShapeTerms::theSameShapeSixtyTimes);
        s.test(once, ChainAndShapeTerms::shapesThatTouch);
        s.test(once, ChainAndShapeTerms::shapesInsideOthers);
        s.test(once, ChainAndShapeTerms::shapesAroundAHole);
        s.test(once, ChainAndShapeTerms::shapesInAnyOrder);
        s.test(once, ChainAndShapeTerms::noShapes);
        String both = "that of two nets what both cover";
        s.test(both, ChainAndShapeTerms::twoThatTouch);
        s.test(both, ChainAndShapeTerms::twoThatCross);
        s.test(both, ChainAndShapeTerms::twoOfWhichOneHasNoShapes);
    }

    private static void spans(FailDiagnose x, String when, int v, int least, int greatest) {
        Checks.due(when + ", least at " + v, x.span(v, 0), least);
        Checks.due(when + ", greatest at " + v, x.span(v, 1), greatest);
    }

    private static void oneCell() {
        FailDiagnose x = new FailDiagnose();
        x.chain(1);
        spans(x, "no rows", 0, 0, 0);
        spans(x, "no rows", 1, 0, 0);
        x.caught(1, 0);
        spans(x, "came as 0", 0, 0, 0);
        spans(x, "came as 0", 1, NONE, NONE);
        x.caught(0, 1);
        spans(x, "came as 1, too", 0, NONE, NONE);
        spans(x, "came as 1, too", 1, NONE, NONE);
    }

    private static void sixtyFourCells() {
        FailDiagnose x = new FailDiagnose();
        x.chain(64);
        spans(x, "no rows", 0, 0, 63);
        x.caught(-1, Long.MIN_VALUE);
        spans(x, "all but the last came as 0", 0, 62, 62);
        spans(x, "all but the last came as 0", 1, NONE, NONE);
        x.chain(64);
        x.caught(-1, 0);
        spans(x, "all came as 0", 0, 63, 63);
        x.chain(64);
        x.caught(0, -1);
        spans(x, "all came as 1", 1, 63, 63);
        x.caught(0, -2);
        spans(x, "the first came as 0, too", 1, NONE, NONE);
    }

    private static void bitsBehindTheCells() {
        for (int n = 1; n < 64; n++) {
            FailDiagnose x = new FailDiagnose();
            x.chain(n);
            x.caught(-1L << n, 0);
            spans(x, n + " cells, all as they should at 0", 0, 0, n - 1);
            x.caught(0, -1L << n);
            spans(x, n + " cells, all as they should at 0", 0, 0, n - 1);
            x.caught(0, 1L << (n - 1));
            spans(x, n + " cells, the last one came as 1", 0, NONE, NONE);
        }
    }

    private static void eachCellOfEachChain() {
        for (int n : new int[] {1, 2, 31, 32, 33, 63, 64}) {
            for (int c = 0; c < n; c++) {
                long upToC = -1L >>> (63 - c);
                FailDiagnose x = new FailDiagnose();
                x.chain(n);
                x.caught(-1L, ~upToC);
                spans(x, "cell " + c + " of " + n, 0, c, c);
                spans(x, "cell " + c + " of " + n, 1, NONE, NONE);
                x.chain(n);
                x.caught(0, upToC);
                spans(x, "cell " + c + " of " + n, 1, c, c);
                spans(x, "cell " + c + " of " + n, 0, NONE, NONE);
            }
        }
    }

    /** Cells 1 and 2 should be 1 and cells 3 and 4 should be 0, which is what came behind a cell stuck at 1. */
    private static void cellsThatShouldBeSo() {
        FailDiagnose x = new FailDiagnose();
        x.chain(5);
        x.caught(0b00110, 0b00111);
        spans(x, "one row", 1, 0, 2);
        x.caught(0b00010, 0b00011);
        spans(x, "two rows", 1, 0, 1);
        x.caught(0b11100, 0b11111);
        spans(x, "three rows", 1, 1, 1);
        x.caught(0b11111, 0b11111);
        spans(x, "all as they should", 1, 1, 1);
    }

    private static void aCellBehindThatIsNotAsItShould() {
        FailDiagnose x = new FailDiagnose();
        x.chain(4);
        x.caught(0b1110, 0b0000);
        spans(x, "all came as 0", 0, 3, 3);
        x.chain(4);
        x.caught(0b1110, 0b0100);
        spans(x, "cell 3 came as 0 behind a 1", 0, NONE, NONE);
        x.chain(4);
        x.caught(0b0001, 0b1000);
        spans(x, "the last one came as 1", 0, NONE, NONE);
        spans(x, "the last one came as 1", 1, NONE, NONE);
    }

    private static void sixtyShapesOfAllNets() {
        FailDiagnose x = Chips.inputs(3);
        for (int k = 0; k < 60; k++) {
            Checks.due("shape", x.shape(k % 3, 0, 0, k + 1, 1), k / 3 + 1);
        }
        for (int net = 0; net < 3; net++) {
            int of = net;
            Checks.refused(Checks.STATE, "the 61st, of net " + net, () -> x.shape(of, 0, 0, 1, 1));
        }
        Checks.due("the last one is there", x.area(2, 0), 60);
    }

    private static void fourSides() {
        int[][] beside = {{80, 100, 90, 110}, {120, 100, 130, 110}, {100, 80, 110, 90}, {100, 120, 110, 130}};
        for (int[] b : beside) {
            FailDiagnose x = Chips.inputs(2);
            x.shape(0, 100, 100, 110, 110);
            x.shape(1, b[0], b[1], b[2], b[3]);
            Checks.due("grown by 5 they touch", x.common(0, 1, 5), 0);
            Checks.due("grown by 6 both cover some", x.common(0, 1, 6), 2 * 22);
            Checks.due("grown by 6", x.area(0, 6), 22 * 22);
        }
    }

    private static void grownBeyondTheCoordinates() {
        FailDiagnose x = Chips.inputs(3);
        x.shape(0, 0, 0, 1, 1);
        x.shape(1, 999, 999, 1000, 1000);
        x.shape(2, 0, 0, 1000, 1000);
        Checks.due("at 0, not grown", x.area(0, 0), 1);
        Checks.due("at 0, grown", x.area(0, 100), 201 * 201);
        Checks.due("at 1000, grown", x.area(1, 100), 201 * 201);
        Checks.due("all, grown by 1", x.area(2, 1), 1002 * 1002);
        Checks.due("all, grown", x.area(2, 100), 1200 * 1200);
        Checks.due("beyond 0, both", x.common(0, 2, 100), 201 * 201);
        Checks.due("beyond 1000, both", x.common(2, 1, 100), 201 * 201);
    }

    private static void theSameShapeSixtyTimes() {
        FailDiagnose x = Chips.inputs(1);
        for (int k = 0; k < 60; k++) {
            x.shape(0, 0, 0, 1000, 1000);
        }
        Checks.due("not grown", x.area(0, 0), 1000000);
        Checks.due("grown", x.area(0, 100), 1440000);
    }

    private static void shapesThatTouch() {
        FailDiagnose x = Chips.inputs(2);
        x.shape(0, 10, 10, 20, 20);
        x.shape(0, 20, 10, 30, 20);
        x.shape(0, 10, 20, 20, 30);
        x.shape(0, 30, 20, 40, 30);
        Checks.due("sides and corners", x.area(0, 0), 400);
        x.shape(1, 10, 10, 20, 20);
        x.shape(1, 20, 20, 30, 30);
        Checks.due("corners, grown by 1", x.area(1, 1), 2 * 144 - 4);
        x.shape(1, 32, 10, 40, 20);
        Checks.due("touching when grown by 1", x.area(1, 1), 2 * 144 - 4 + 10 * 12);
    }

    private static void shapesInsideOthers() {
        FailDiagnose x = Chips.inputs(1);
        x.shape(0, 100, 100, 200, 200);
        x.shape(0, 150, 150, 160, 160);
        x.shape(0, 100, 100, 101, 101);
        x.shape(0, 199, 100, 200, 200);
        x.shape(0, 150, 100, 160, 200);
        Checks.due("not grown", x.area(0, 0), 10000);
        Checks.due("grown", x.area(0, 7), 114 * 114);
        x.shape(0, 150, 50, 160, 250);
        Checks.due("one goes through", x.area(0, 0), 10000 + 2 * 50 * 10);
    }

    private static void shapesAroundAHole() {
        FailDiagnose x = Chips.inputs(1);
        x.shape(0, 0, 0, 30, 10);
        x.shape(0, 0, 20, 30, 30);
        x.shape(0, 0, 0, 10, 30);
        x.shape(0, 20, 0, 30, 30);
        Checks.due("with a hole", x.area(0, 0), 800);
        Checks.due("the hole is 2 wide", x.area(0, 4), 38 * 38 - 4);
        Checks.due("the hole is gone", x.area(0, 5), 40 * 40);
    }

    /** Three that overlap: 200, 50 and 75 lie in two of them, 25 of these in all three. */
    private static void shapesInAnyOrder() {
        int[][] shapes = {{0, 20, 40, 30}, {10, 10, 30, 40}, {25, 0, 35, 25}};
        int[][] orders = {{0, 1, 2}, {0, 2, 1}, {1, 0, 2}, {1, 2, 0}, {2, 0, 1}, {2, 1, 0}};
        for (int[] order : orders) {
            FailDiagnose x = Chips.inputs(1);
            for (int k : order) {
                x.shape(0, shapes[k][0], shapes[k][1], shapes[k][2], shapes[k][3]);
            }
            Checks.due("the three in another order", x.area(0, 0), 400 + 600 + 250 - 200 - 50 - 75 + 25);
        }
    }

    private static void noShapes() {
        FailDiagnose x = Chips.inputs(2);
        Checks.due("not grown", x.area(0, 0), 0);
        Checks.due("grown", x.area(0, 100), 0);
        x.shape(0, 0, 0, 5, 5);
        Checks.due("another net", x.area(1, 100), 0);
    }

    private static void twoThatTouch() {
        FailDiagnose x = Chips.inputs(3);
        x.shape(0, 0, 0, 10, 10);
        x.shape(1, 10, 0, 20, 10);
        x.shape(2, 10, 10, 20, 20);
        Checks.due("a side", x.common(0, 1, 0), 0);
        Checks.due("a corner", x.common(0, 2, 0), 0);
        Checks.due("a side, grown by 1", x.common(0, 1, 1), 2 * 12);
        Checks.due("a corner, grown by 1", x.common(2, 0, 1), 4);
    }

    private static void twoThatCross() {
        FailDiagnose x = Chips.inputs(2);
        x.shape(0, 0, 100, 1000, 110);
        x.shape(0, 0, 105, 1000, 120);
        x.shape(1, 300, 0, 310, 1000);
        x.shape(1, 500, 0, 520, 1000);
        x.shape(1, 515, 0, 530, 1000);
        Checks.due("crossing", x.common(0, 1, 0), 20 * 40);
        Checks.due("crossing, the other way", x.common(1, 0, 0), 20 * 40);
        Checks.due("crossing, grown", x.common(0, 1, 10), 40 * 80);
        Checks.due("one alone", x.area(0, 0), 20000);
        Checks.due("the other alone", x.area(1, 0), 40000);
    }

    private static void twoOfWhichOneHasNoShapes() {
        FailDiagnose x = Chips.inputs(2);
        Checks.due("neither has any", x.common(0, 1, 100), 0);
        x.shape(0, 0, 0, 1000, 1000);
        Checks.due("the second has none", x.common(0, 1, 100), 0);
        Checks.due("the first has none", x.common(1, 0, 100), 0);
        Checks.due("one and the same that has none", x.common(1, 1, 100), 0);
    }
}
