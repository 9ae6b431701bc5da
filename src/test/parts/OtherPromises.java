/** The sentences of promises 16 to 23: the chain, shapes and areas, count and clear. */
final class OtherPromises {
    private static final Class<?> INDEX = Checks.INDEX;
    private static final Class<?> STATE = Checks.STATE;
    private static final Class<?> ARGUMENT = Checks.ARGUMENT;
    private static final int NONE = FailDiagnose.NONE;

    private OtherPromises() {
    }

    static void tests(Sentences s) {
        s.section("Promise 16: chain");
        String chain = "A new chain of so many cells, without rows";
        s.test(chain, OtherPromises::aNewChainHasNoRows);
        s.test(chain, OtherPromises::aNewChainHasItsOwnCells);
        s.test("IllegalArgumentException: n is not 1 .. 64", OtherPromises::chainsBesideTheMost);

        s.section("Promise 17: caught");
        s.test("A row more of the chain: how many it has", OtherPromises::thirtyRows);
        String caught = "IllegalStateException: there is no chain, or it has 30";
        s.test(caught, OtherPromises::caughtWithoutAChain);
        s.test(caught, OtherPromises::theThirtyFirstRow);

        s.section("Promise 18: span");
        String span = "The least (end 0) or greatest (1) cell that may be stuck at v by all rows of the chain";
        s.test(span, OtherPromises::withoutRowsAllCellsMay);
        s.test(span, OtherPromises::byTheFirstAndTheLastRow);
        s.test("NONE if none may", OtherPromises::noneMay);
        s.test("IndexOutOfBoundsException: end or v is neither 0 nor 1", OtherPromises::neitherZeroNorOne);
        s.test("IllegalStateException: there is no chain", OtherPromises::spanWithoutAChain);

        s.section("Promise 19: shape");
        s.test("A shape of a net: how many it has", OtherPromises::shapesOfEachNet);
        s.test("IndexOutOfBoundsException", OtherPromises::aShapeOfNoNet);
        s.test("IllegalStateException: there are 60", OtherPromises::theSixtyFirstShape);
        s.test("IllegalStateException: there are 60", OtherPromises::shapesAfterClear);
        String coordinate = "IllegalArgumentException: a coordinate is not 0 .. 1000, or x0 is not below x1, or y0 not "
                + "below y1";
        s.test(coordinate, OtherPromises::coordinatesAtTheEdges);
        s.test(coordinate, OtherPromises::coordinatesBeyondTheEdges);
        s.test(coordinate, OtherPromises::noWidthAndNoHeight);

        s.section("Promise 20: area");
        s.test("The AREA of a net grown by g", OtherPromises::areasOfEachGrowth);
        s.test("IndexOutOfBoundsException", OtherPromises::theAreaOfNoNet);
        s.test("IllegalArgumentException: g is not 0 .. 100", OtherPromises::areasBesideTheGrowths);

        s.section("Promise 21: common");
        s.test("The AREA of two nets (also one and the same) grown by g", OtherPromises::commonOfOneAndTheSame);
        s.test("The AREA of two nets (also one and the same) grown by g", OtherPromises::commonOfSixtyShapes);
        s.test("IndexOutOfBoundsException", OtherPromises::commonOfNoNet);
        s.test("IllegalArgumentException: g is not 0 .. 100", OtherPromises::commonBesideTheGrowths);

        s.section("Promise 22: count");
        String count = "How many: what = 0 nets, 1 inputs, 2 outputs, 3 near pairs, 4 suspects (0 when none are told), "
                + "5 shapes, 6 patterns, 7 rows of the chain, 8 chips joined";
        s.test(count, OtherPromises::countsOfNothing);
        s.test(count, OtherPromises::countsOfSomething);
        s.test(count, OtherPromises::countsOfAllThereMayBe);
        s.test(count, OtherPromises::suspectsWhenNoneAreTold);
        s.test("IndexOutOfBoundsException", OtherPromises::countsBesideTheNine);

        s.section("Promise 23: clear");
        s.test("Nothing at all", OtherPromises::clearOfNothing);
        s.test("Nothing at all", OtherPromises::clearOfSomething);
        s.test("Nothing at all", OtherPromises::clearOfAllThereMayBe);
        s.test("Nothing at all", OtherPromises::clearTwice);
        s.test("Nothing at all", OtherPromises::theSameAgainAfterClear);
        s.test("Nothing at all", OtherPromises::aLittleAfterAllThereMayBe);
    }

    private static void aNewChainHasNoRows() {
        FailDiagnose x = new FailDiagnose();
        x.chain(3);
        Checks.due("rows", x.count(7), 0);
        x.caught(7, 7);
        x.caught(7, 7);
        x.chain(3);
        Checks.due("rows of the same once more", x.count(7), 0);
        Checks.due("nothing of its rows is left", x.span(0, 1), 2);
        Checks.due("the first row", x.caught(7, 0), 1);
        Checks.due("it alone counts", x.span(0, 0), 2);
    }

    private static void aNewChainHasItsOwnCells() {
        FailDiagnose x = new FailDiagnose();
        for (int n : new int[] {64, 1, 2, 63, 64}) {
            x.chain(n);
            Checks.due("greatest of " + n, x.span(1, 1), n - 1);
        }
    }

    private static void chainsBesideTheMost() {
        FailDiagnose x = new FailDiagnose();
        for (int n : new int[] {0, -1, 65, Integer.MIN_VALUE, Integer.MAX_VALUE}) {
            Checks.refused(ARGUMENT, "chain(" + n + ")", () -> RefusedCalls.begun(x, n));
        }
        Checks.refused(STATE, "there is none yet", () -> x.span(0, 0));
        x.chain(1);
        Checks.due("the first one taken", x.span(0, 1), 0);
        x.chain(64);
        Checks.due("the last one taken", x.span(0, 1), 63);
    }

    private static void thirtyRows() {
        FailDiagnose x = new FailDiagnose();
        x.chain(64);
        for (int k = 1; k <= 30; k++) {
            Checks.due("caught", x.caught(-1, -2), k);
            Checks.due("count", x.count(7), k);
        }
        Checks.due("they are rows of the chain", x.span(0, 1), 0);
    }

    private static void caughtWithoutAChain() {
        FailDiagnose x = new FailDiagnose();
        Checks.refused(STATE, "no chain yet", () -> x.caught(0, 0));
        x.chain(1);
        Checks.due("a chain", x.caught(0, 0), 1);
        x.clear();
        Checks.refused(STATE, "no chain after clear", () -> x.caught(0, 0));
        Checks.due("rows", x.count(7), 0);
    }

    private static void theThirtyFirstRow() {
        FailDiagnose x = new FailDiagnose();
        x.chain(2);
        for (int k = 0; k < 30; k++) {
            x.caught(3, 2);
        }
        Checks.refused(STATE, "the 31st", () -> x.caught(3, 3));
        Checks.due("rows", x.count(7), 30);
        Checks.due("nothing of it counts", x.span(0, 0), 0);
        x.chain(2);
        Checks.due("a new chain's first", x.caught(3, 3), 1);
    }

    private static void withoutRowsAllCellsMay() {
        FailDiagnose x = new FailDiagnose();
        for (int n = 1; n <= 64; n++) {
            x.chain(n);
            for (int v = 0; v < 2; v++) {
                Checks.due("least of " + n, x.span(v, 0), 0);
                Checks.due("greatest of " + n, x.span(v, 1), n - 1);
            }
        }
    }

    /** The first row leaves cells 1 to 3, the thirtieth one cells 0 to 2. */
    private static void byTheFirstAndTheLastRow() {
        FailDiagnose x = new FailDiagnose();
        x.chain(5);
        x.caught(0b10010, 0b10000);
        for (int k = 2; k < 30; k++) {
            x.caught(0, 0);
        }
        Checks.due("least by the first row", x.span(0, 0), 1);
        Checks.due("greatest by the first row", x.span(0, 1), 3);
        Checks.due("the thirtieth", x.caught(0b01001, 0b01000), 30);
        Checks.due("least by all rows", x.span(0, 0), 1);
        Checks.due("greatest by all rows", x.span(0, 1), 2);
    }

    private static void noneMay() {
        FailDiagnose x = new FailDiagnose();
        x.chain(2);
        x.caught(0b11, 0b11);
        Checks.due("least at 0", x.span(0, 0), NONE);
        Checks.due("greatest at 0", x.span(0, 1), NONE);
        Checks.due("least at 1", x.span(1, 0), 0);
        Checks.due("greatest at 1", x.span(1, 1), 1);
        x.caught(0b00, 0b00);
        Checks.due("least at 1, two rows", x.span(1, 0), NONE);
        Checks.due("greatest at 1, two rows", x.span(1, 1), NONE);
    }

    private static void neitherZeroNorOne() {
        FailDiagnose x = new FailDiagnose();
        x.chain(3);
        for (int no : Checks.beside(2)) {
            for (int ok = 0; ok < 2; ok++) {
                int other = ok;
                Checks.refused(INDEX, "v " + no, () -> x.span(no, other));
                Checks.refused(INDEX, "end " + no, () -> x.span(other, no));
            }
            Checks.refused(INDEX, "both " + no, () -> x.span(no, no));
        }
    }

    private static void spanWithoutAChain() {
        FailDiagnose x = new FailDiagnose();
        for (int v = 0; v < 2; v++) {
            for (int end = 0; end < 2; end++) {
                int of = v;
                int at = end;
                Checks.refused(STATE, "no chain yet", () -> x.span(of, at));
            }
        }
        x.chain(3);
        Checks.due("a chain", x.span(0, 1), 2);
        x.clear();
        Checks.refused(STATE, "no chain after clear", () -> x.span(0, 1));
    }

    private static void shapesOfEachNet() {
        FailDiagnose x = Chips.inputs(2);
        Checks.due("the first of net 0", x.shape(0, 0, 0, 1, 1), 1);
        Checks.due("the first of net 1", x.shape(1, 0, 0, 1, 1), 1);
        Checks.due("the second of net 0", x.shape(0, 0, 0, 1, 1), 2);
        Checks.due("the third of net 0", x.shape(0, 5, 5, 6, 6), 3);
        Checks.due("the second of net 1", x.shape(1, 5, 5, 6, 6), 2);
        Checks.due("all", x.count(5), 5);
    }

    private static void aShapeOfNoNet() {
        FailDiagnose x = new FailDiagnose();
        Checks.refused(INDEX, "no nets yet", () -> x.shape(0, 0, 0, 1, 1));
        x.input();
        for (int net : Checks.beside(1)) {
            Checks.refused(INDEX, "shape of " + net, () -> x.shape(net, 0, 0, 1, 1));
        }
        FailDiagnose y = Chips.nots(200);
        Checks.due("the last net", y.shape(199, 0, 0, 1, 1), 1);
        Checks.refused(INDEX, "the net behind it", () -> y.shape(200, 0, 0, 1, 1));
    }

    private static void theSixtyFirstShape() {
        FailDiagnose x = Chips.inputs(2);
        for (int k = 1; k <= 60; k++) {
            Checks.due("shape", x.shape(0, k, k, k + 1, k + 1), k);
        }
        Checks.refused(STATE, "the 61st, of the same net", () -> x.shape(0, 0, 0, 1, 1));
        Checks.refused(STATE, "the 61st, of another net", () -> x.shape(1, 0, 0, 1, 1));
        Checks.due("shapes", x.count(5), 60);
        Checks.due("area", x.area(0, 0), 60);
        Checks.due("area of the other net", x.area(1, 100), 0);
    }

    private static void shapesAfterClear() {
        FailDiagnose x = Chips.inputs(1);
        for (int k = 0; k < 60; k++) {
            x.shape(0, 0, 0, 1000, 1000);
        }
        x.clear();
        x.input();
        Checks.due("area after clear", x.area(0, 100), 0);
        for (int k = 1; k <= 60; k++) {
            Checks.due("shape", x.shape(0, k, k, k + 1, k + 1), k);
        }
        Checks.refused(STATE, "the 61st", () -> x.shape(0, 0, 0, 1, 1));
        Checks.due("area", x.area(0, 0), 60);
    }

    private static void coordinatesAtTheEdges() {
        int[][] some = {{0, 0, 1, 1}, {999, 999, 1000, 1000}, {0, 999, 1000, 1000}, {999, 0, 1000, 1000},
            {0, 0, 1000, 1}, {0, 0, 1, 1000}, {0, 0, 1000, 1000}, {500, 500, 501, 501}};
        for (int[] c : some) {
            FailDiagnose x = Chips.inputs(1);
            Checks.due("shape", x.shape(0, c[0], c[1], c[2], c[3]), 1);
            Checks.due("area", x.area(0, 0), (c[2] - c[0]) * (c[3] - c[1]));
        }
    }

    private static void coordinatesBeyondTheEdges() {
        FailDiagnose x = Chips.inputs(1);
        for (int no : new int[] {-1, Integer.MIN_VALUE}) {
            Checks.refused(ARGUMENT, "x0 " + no, () -> x.shape(0, no, 0, 5, 5));
            Checks.refused(ARGUMENT, "y0 " + no, () -> x.shape(0, 0, no, 5, 5));
            Checks.refused(ARGUMENT, "x1 " + no, () -> x.shape(0, 0, 0, no, 5));
            Checks.refused(ARGUMENT, "y1 " + no, () -> x.shape(0, 0, 0, 5, no));
            Checks.refused(ARGUMENT, "all " + no, () -> x.shape(0, no, no, no, no));
        }
        for (int no : new int[] {1001, Integer.MAX_VALUE}) {
            Checks.refused(ARGUMENT, "x0 " + no, () -> x.shape(0, no, 0, 5, 5));
            Checks.refused(ARGUMENT, "y0 " + no, () -> x.shape(0, 0, no, 5, 5));
            Checks.refused(ARGUMENT, "x1 " + no, () -> x.shape(0, 0, 0, no, 5));
            Checks.refused(ARGUMENT, "y1 " + no, () -> x.shape(0, 0, 0, 5, no));
        }
        Checks.refused(ARGUMENT, "x0 and x1 below 0", () -> x.shape(0, -2, 0, -1, 5));
        Checks.refused(ARGUMENT, "y0 and y1 below 0", () -> x.shape(0, 0, -2, 5, -1));
        Checks.refused(ARGUMENT, "x0 and x1 above 1000", () -> x.shape(0, 1001, 0, 1002, 5));
        Checks.refused(ARGUMENT, "y0 and y1 above 1000", () -> x.shape(0, 0, 1001, 5, 1002));
        Checks.due("shapes", x.count(5), 0);
    }

    private static void noWidthAndNoHeight() {
        FailDiagnose x = Chips.inputs(1);
        for (int at : new int[] {0, 5, 1000}) {
            Checks.refused(ARGUMENT, "x0 is x1, " + at, () -> x.shape(0, at, 0, at, 5));
            Checks.refused(ARGUMENT, "y0 is y1, " + at, () -> x.shape(0, 0, at, 5, at));
        }
        Checks.refused(ARGUMENT, "x0 is above x1", () -> x.shape(0, 6, 0, 5, 5));
        Checks.refused(ARGUMENT, "y0 is above y1", () -> x.shape(0, 0, 6, 5, 5));
        Checks.refused(ARGUMENT, "x0 is 1000, x1 is 0", () -> x.shape(0, 1000, 0, 0, 5));
        Checks.refused(ARGUMENT, "y0 is 1000, y1 is 0", () -> x.shape(0, 0, 1000, 5, 0));
        Checks.due("shapes", x.count(5), 0);
    }

    private static void areasOfEachGrowth() {
        FailDiagnose x = Chips.inputs(1);
        x.shape(0, 10, 20, 13, 27);
        for (int g = 0; g <= 100; g++) {
            Checks.due("grown by " + g, x.area(0, g), (3 + 2 * g) * (7 + 2 * g));
        }
        x.shape(0, 1000 - 87, 20, 1000, 27);
        Checks.due("two apart, grown", x.area(0, 100), 203 * 207 + 287 * 207);
    }

    private static void theAreaOfNoNet() {
        FailDiagnose x = new FailDiagnose();
        Checks.refused(INDEX, "no nets yet", () -> x.area(0, 0));
        x.input();
        for (int net : Checks.beside(1)) {
            Checks.refused(INDEX, "area of " + net, () -> x.area(net, 0));
        }
        Checks.due("the only net", x.area(0, 0), 0);
    }

    private static void areasBesideTheGrowths() {
        FailDiagnose x = Chips.inputs(1);
        x.shape(0, 0, 0, 1, 1);
        for (int g : Checks.beside(101)) {
            Checks.refused(ARGUMENT, "grown by " + g, () -> x.area(0, g));
        }
        Checks.due("the first one taken", x.area(0, 0), 1);
        Checks.due("the last one taken", x.area(0, 100), 201 * 201);
    }

    private static void commonOfOneAndTheSame() {
        FailDiagnose x = Chips.withSomething();
        for (int g : new int[] {0, 1, 99, 100}) {
            Checks.due("net 0, grown by " + g, x.common(0, 0, g), x.area(0, g));
            Checks.due("net 1, grown by " + g, x.common(1, 1, g), x.area(1, g));
        }
        Checks.due("a net without shapes", x.common(2, 2, 100), 0);
    }

    private static void commonOfSixtyShapes() {
        FailDiagnose x = Chips.inputs(2);
        for (int k = 0; k < 30; k++) {
            x.shape(0, 0, 30 * k, 1000, 30 * k + 10);
            x.shape(1, 30 * k, 0, 30 * k + 10, 1000);
        }
        Checks.due("crossings", x.common(0, 1, 0), 30 * 30 * 100);
        Checks.due("crossings, grown by 9", x.common(0, 1, 9), 30 * 30 * 28 * 28);
        Checks.due("crossings, grown by 10", x.common(1, 0, 10), 900 * 900);
    }

    private static void commonOfNoNet() {
        FailDiagnose x = new FailDiagnose();
        Checks.refused(INDEX, "no nets yet", () -> x.common(0, 0, 0));
        x.input();
        for (int net : Checks.beside(1)) {
            Checks.refused(INDEX, "a " + net, () -> x.common(net, 0, 0));
            Checks.refused(INDEX, "b " + net, () -> x.common(0, net, 0));
            Checks.refused(INDEX, "both " + net, () -> x.common(net, net, 0));
        }
        Checks.due("the only net", x.common(0, 0, 0), 0);
    }

    private static void commonBesideTheGrowths() {
        FailDiagnose x = Chips.inputs(2);
        x.shape(0, 0, 0, 1, 1);
        x.shape(1, 0, 0, 1, 1);
        for (int g : Checks.beside(101)) {
            Checks.refused(ARGUMENT, "grown by " + g, () -> x.common(0, 1, g));
            Checks.refused(ARGUMENT, "one and the same grown by " + g, () -> x.common(0, 0, g));
        }
        Checks.due("the first one taken", x.common(0, 1, 0), 1);
        Checks.due("the last one taken", x.common(0, 1, 100), 201 * 201);
    }

    private static void countsAre(FailDiagnose x, int... want) {
        for (int what = 0; what < want.length; what++) {
            Checks.due("count " + what, x.count(what), want[what]);
        }
    }

    private static void countsOfNothing() {
        countsAre(new FailDiagnose(), 0, 0, 0, 0, 0, 0, 0, 0, 0);
    }

    private static void countsOfSomething() {
        FailDiagnose x = Chips.withSomething();
        x.join();
        x.join();
        countsAre(x, 3, 2, 2, 1, 6, 3, 4, 2, 3);
    }

    private static void countsOfAllThereMayBe() {
        countsAre(Chips.full(), 200, 32, 32, 40, 480, 60, 64, 30, 1);
    }

    private static void suspectsWhenNoneAreTold() {
        FailDiagnose x = Chips.told();
        Checks.due("told", x.count(4), 3);
        x.patterns(4);
        Checks.due("not told", x.count(4), 0);
        x.run();
        Checks.due("told again", x.count(4), 3);
        x.clear();
        Checks.due("after clear", x.count(4), 0);
    }

    private static void countsBesideTheNine() {
        FailDiagnose x = Chips.told();
        for (int what : Checks.beside(9)) {
            Checks.refused(INDEX, "count " + what, () -> x.count(what));
        }
        Checks.due("the first one", x.count(0), 3);
        Checks.due("the last one", x.count(8), 0);
    }

    private static void clearOfNothing() {
        FailDiagnose x = new FailDiagnose();
        x.clear();
        Twins.areTheSame(x, new FailDiagnose());
    }

    private static void clearOfSomething() {
        FailDiagnose x = Chips.withSomething();
        x.clear();
        countsAre(x, 0, 0, 0, 0, 0, 0, 0, 0, 0);
        Twins.areTheSame(x, new FailDiagnose());
    }

    private static void clearOfAllThereMayBe() {
        FailDiagnose x = Chips.full();
        x.clear();
        Twins.areTheSame(x, new FailDiagnose());
    }

    private static void clearTwice() {
        FailDiagnose x = Chips.withSomething();
        x.clear();
        x.clear();
        Twins.areTheSame(x, new FailDiagnose());
    }

    private static void theSameAgainAfterClear() {
        FailDiagnose x = Chips.withSomething();
        x.clear();
        Chips.putSomething(x);
        Twins.areTheSame(x, Chips.withSomething());
    }

    private static void aLittleAfterAllThereMayBe() {
        FailDiagnose x = Chips.full();
        x.clear();
        Chips.putSomething(x);
        FailDiagnose y = Chips.withSomething();
        for (int what = 0; what <= 8; what++) {
            Checks.due("count " + what, x.count(what), y.count(what));
        }
        for (int net = 0; net < 3; net++) {
            Checks.due("row of " + net, x.row(net), y.row(net));
            Checks.due("share of " + net, x.share(net), y.share(net));
            Checks.due("area of " + net, x.area(net, 9), y.area(net, 9));
        }
        for (int what = 0; what <= 5; what++) {
            Checks.due("pair " + what, x.pair(what), y.pair(what));
        }
        Checks.due("greatest stuck at 1", x.span(1, 1), y.span(1, 1));
    }
}
