/** The sentences of promises 1 to 10: nets, outputs, patterns, fails, near pairs, what faults show. */
final class CircuitPromises {
    private static final Class<?> INDEX = Checks.INDEX;
    private static final Class<?> STATE = Checks.STATE;
    private static final Class<?> ARGUMENT = Checks.ARGUMENT;

    private CircuitPromises() {
    }

    static void tests(Sentences s) {
        s.section("Promise 1: A new object");
        s.test("Nothing at all", CircuitPromises::aNewObjectHasNothing);
        s.test("Nothing at all", CircuitPromises::aNewObjectRunsAndJoins);
        s.test("Nothing at all", CircuitPromises::objectsHaveNothingOfOneAnother);

        s.section("Promise 2: input");
        s.test("A new input: its net", CircuitPromises::inputsAmongGates);
        String inputs = "IllegalStateException: there are 32, or 200 nets";
        s.test(inputs, CircuitPromises::theThirtyThirdInput);
        s.test(inputs, CircuitPromises::theInputBehind200Nets);
        s.test(inputs, CircuitPromises::inputsAfterClear);

        s.section("Promise 3: gate");
        String gate = "A new gate (kinds 5 and 6 do not ask for b): its net";
        s.test(gate, CircuitPromises::gatesHaveNumbersAsTheyCome);
        s.test(gate, CircuitPromises::anyBForKinds5And6);
        s.test("IndexOutOfBoundsException", CircuitPromises::gatesTakeNetsBeforeThem);
        s.test("IndexOutOfBoundsException", CircuitPromises::aGateOfNothing);
        s.test("IllegalStateException: there are 200", CircuitPromises::the201stNet);
        s.test("IllegalStateException: there are 200", CircuitPromises::gatesAfterClear);
        s.test("IllegalArgumentException: there is no such kind", CircuitPromises::kindsBesideTheSeven);

        s.section("Promise 4: output");
        String output = "A net is an output, too (once more, if it was one): its number";
        s.test(output, CircuitPromises::anOutputOnceMore);
        s.test(output, CircuitPromises::anOutputsFailsAreItsOwn);
        s.test("IndexOutOfBoundsException", CircuitPromises::anOutputOfNoNet);
        s.test("IllegalStateException: there are 32", CircuitPromises::theThirtyThirdOutput);
        s.test("IllegalStateException: there are 32", CircuitPromises::outputsAfterClear);

        s.section("Promise 5: patterns");
        s.test("How many patterns there are: how many there were", CircuitPromises::howManyPatternsThereWere);
        s.test("IllegalArgumentException: n is not 0 .. 64", CircuitPromises::patternsBesideTheMost);

        s.section("Promise 6: pattern");
        String pattern = "The row of an input (by its net): what it was, as it was put";
        s.test(pattern, CircuitPromises::aRowAsItWasPut);
        s.test(pattern, CircuitPromises::aRowByTheInputsNet);
        String noInput = "IndexOutOfBoundsException: also if the net is no input";
        s.test(noInput, CircuitPromises::aRowOfAGate);
        s.test(noInput, CircuitPromises::aRowOfNoNet);

        s.section("Promise 7: row");
        s.test("The row of a net without a fault", CircuitPromises::aRowWithoutAFault);
        s.test("IndexOutOfBoundsException", CircuitPromises::theRowOfNoNet);

        s.section("Promise 8: fail");
        s.test("The fails of an output: what they were, as they were put", CircuitPromises::failsAsTheyWerePut);
        s.test("IndexOutOfBoundsException", CircuitPromises::failsOfNoOutput);

        s.section("Promise 9: near");
        String near = "Two nets are near: the number of the pair (also if there is such a one)";
        s.test(near, CircuitPromises::suchAPair);
        s.test(near, CircuitPromises::pairsOfOneNetAreDifferentOnes);
        s.test("IndexOutOfBoundsException", CircuitPromises::nearNoNet);
        s.test("IllegalStateException: there are 40", CircuitPromises::the41stPair);
        s.test("IllegalStateException: there are 40", CircuitPromises::anyPairWhenThereAre40);
        s.test("IllegalStateException: there are 40", CircuitPromises::pairsAfterClear);
        s.test("IllegalArgumentException: one reaches the other", CircuitPromises::oneReachesTheOther);

        s.section("Promise 10: shows");
        s.test("What a fault (of a net, or a near pair) shows at an output", CircuitPromises::netsAndPairsShow);
        String noKind = "IndexOutOfBoundsException: also if there is no such kind";
        s.test(noKind, CircuitPromises::showsOfNoKind);
        s.test(noKind, CircuitPromises::showsOfTheLastOnes);
    }

    private static void aNewObjectHasNothing() {
        FailDiagnose x = new FailDiagnose();
        for (int what = 0; what <= 8; what++) {
            Checks.due("count " + what, x.count(what), 0);
        }
        Checks.refused(INDEX, "row", () -> x.row(0));
        Checks.refused(INDEX, "share", () -> x.share(0));
        Checks.refused(INDEX, "pattern", () -> x.pattern(0, 0));
        Checks.refused(INDEX, "fail", () -> x.fail(0, 0));
        Checks.refused(INDEX, "shows", () -> x.shows(0, 0, 0));
        Checks.refused(INDEX, "area", () -> x.area(0, 0));
        Checks.refused(STATE, "suspect", () -> x.suspect(0, 0));
        Checks.refused(STATE, "pair", () -> x.pair(0));
        Checks.refused(STATE, "join", x::join);
        Checks.refused(STATE, "caught", () -> x.caught(0, 0));
        Checks.refused(STATE, "span", () -> x.span(0, 0));
        Checks.due("patterns there were", x.patterns(0), 0);
    }

    private static void aNewObjectRunsAndJoins() {
        FailDiagnose x = new FailDiagnose();
        Checks.due("run", x.run(), 0);
        for (int what = 0; what <= 5; what++) {
            Checks.due("pair " + what, x.pair(what), what < 2 ? FailDiagnose.NONE : 0);
        }
        Checks.refused(INDEX, "suspect", () -> x.suspect(0, 0));
        Checks.due("join", x.join(), 0);
        Checks.due("chips", x.count(8), 1);
    }

    private static void objectsHaveNothingOfOneAnother() {
        Chips.withSomething();
        FailDiagnose x = new FailDiagnose();
        Chips.withSomething();
        Twins.areTheSame(x, new FailDiagnose());
    }

    private static void inputsAmongGates() {
        FailDiagnose x = new FailDiagnose();
        Checks.due("the first", x.input(), 0);
        Checks.due("the second", x.input(), 1);
        x.gate(0, 0, 1);
        x.gate(5, 2, 0);
        Checks.due("behind gates", x.input(), 4);
        Checks.due("nets", x.count(0), 5);
        Checks.due("inputs", x.count(1), 3);
    }

    private static void theThirtyThirdInput() {
        FailDiagnose x = Chips.inputs(31);
        Checks.due("the 32nd", x.input(), 31);
        Checks.refused(STATE, "the 33rd", x::input);
        Checks.due("a gate still comes", x.gate(0, 30, 31), 32);
        Checks.refused(STATE, "the 33rd, behind a gate", x::input);
        Checks.due("inputs", x.count(1), 32);
        Checks.due("nets", x.count(0), 33);
    }

    private static void theInputBehind200Nets() {
        FailDiagnose x = Chips.nots(199);
        Checks.due("the 200th net", x.input(), 199);
        Checks.refused(STATE, "the 201st net", x::input);
        Checks.due("inputs", x.count(1), 2);
        Checks.due("nets", x.count(0), 200);
        Checks.due("its row can be put", x.pattern(199, 1), 0);
    }

    private static void inputsAfterClear() {
        FailDiagnose x = Chips.inputs(32);
        x.clear();
        for (int k = 0; k < 32; k++) {
            Checks.due("input", x.input(), k);
        }
        Checks.refused(STATE, "the 33rd", x::input);
    }

    private static void gatesHaveNumbersAsTheyCome() {
        FailDiagnose x = Chips.inputs(1);
        for (int net = 1; net < 200; net++) {
            Checks.due("gate", x.gate(net % 7, net - 1, net / 2), net);
        }
    }

    private static void anyBForKinds5And6() {
        FailDiagnose x = Chips.inputs(1);
        x.patterns(2);
        x.pattern(0, 1);
        int net = 1;
        for (int kind = 5; kind <= 6; kind++) {
            for (int b : new int[] {-1, net, 200, Integer.MIN_VALUE, Integer.MAX_VALUE}) {
                Checks.due("gate of kind " + kind + " and b " + b, x.gate(kind, 0, b), net);
                Checks.due("its row", x.row(net), kind == 5 ? 2 : 1);
                net++;
            }
        }
    }

    private static void gatesTakeNetsBeforeThem() {
        FailDiagnose x = Chips.inputs(2);
        for (int kind = 0; kind <= 6; kind++) {
            int of = kind;
            int last = x.count(0) - 1;
            for (int net : Checks.beside(last + 1)) {
                Checks.refused(INDEX, "kind " + kind + " of a " + net, () -> x.gate(of, net, 0));
                if (kind < 5) {
                    Checks.refused(INDEX, "kind " + kind + " of b " + net, () -> x.gate(of, 0, net));
                }
            }
            Checks.due("kind " + kind + " of the last net and the first", x.gate(kind, last, 0), last + 1);
            Checks.due("kind " + kind + " of the first net and the last", x.gate(kind, 0, last + 1), last + 2);
        }
    }

    private static void aGateOfNothing() {
        FailDiagnose x = new FailDiagnose();
        for (int kind = -1; kind <= 7; kind++) {
            int of = kind;
            Checks.refused(INDEX, "kind " + kind, () -> x.gate(of, 0, 0));
        }
    }

    private static void the201stNet() {
        FailDiagnose x = Chips.nots(199);
        Checks.due("the 200th", x.gate(0, 198, 0), 199);
        for (int kind = 0; kind <= 6; kind++) {
            int of = kind;
            Checks.refused(STATE, "the 201st, of kind " + kind, () -> x.gate(of, 0, 0));
        }
        Checks.due("nets", x.count(0), 200);
    }

    private static void gatesAfterClear() {
        FailDiagnose x = Chips.nots(200);
        x.clear();
        x.input();
        for (int net = 1; net < 200; net++) {
            Checks.due("gate", x.gate(6, net - 1, 0), net);
        }
        Checks.refused(STATE, "the 201st", () -> x.gate(6, 0, 0));
        x.patterns(64);
        x.pattern(0, 7);
        Checks.due("nothing of the NOTs is left", x.row(199), 7);
    }

    private static void kindsBesideTheSeven() {
        FailDiagnose x = Chips.inputs(2);
        for (int kind : Checks.beside(7)) {
            Checks.refused(ARGUMENT, "kind " + kind, () -> x.gate(kind, 0, 1));
        }
        Checks.due("the first kind", x.gate(0, 0, 1), 2);
        Checks.due("the last kind", x.gate(6, 0, 1), 3);
    }

    private static void anOutputOnceMore() {
        FailDiagnose x = Chips.inputs(2);
        Checks.due("net 1", x.output(1), 0);
        Checks.due("once more", x.output(1), 1);
        Checks.due("another net", x.output(0), 2);
        Checks.due("and once more", x.output(1), 3);
        Checks.due("outputs", x.count(2), 4);
    }

    private static void anOutputsFailsAreItsOwn() {
        FailDiagnose x = Chips.inputs(1);
        x.output(0);
        x.fail(0, 5);
        x.output(0);
        Checks.due("fails of the same net's new output", x.fail(1, 6), 0);
        Checks.due("fails of the first one", x.fail(0, 0), 5);
        Checks.due("fails of the second one", x.fail(1, 0), 6);
    }

    private static void anOutputOfNoNet() {
        FailDiagnose x = new FailDiagnose();
        Checks.refused(INDEX, "no nets yet", () -> x.output(0));
        x.input();
        for (int net : Checks.beside(1)) {
            Checks.refused(INDEX, "output " + net, () -> x.output(net));
        }
        Checks.due("the only net", x.output(0), 0);
    }

    private static void theThirtyThirdOutput() {
        FailDiagnose x = Chips.inputs(1);
        for (int k = 0; k < 32; k++) {
            Checks.due("output", x.output(0), k);
        }
        Checks.refused(STATE, "the 33rd", () -> x.output(0));
        Checks.due("outputs", x.count(2), 32);
        Checks.due("fails of the last one", x.fail(31, 1), 0);
        Checks.refused(INDEX, "fails of none", () -> x.fail(32, 1));
    }

    private static void outputsAfterClear() {
        FailDiagnose x = Chips.failingInputs(32);
        x.clear();
        x.input();
        for (int k = 0; k < 32; k++) {
            Checks.due("output", x.output(0), k);
            Checks.due("fails of a new one", x.fail(k, 1), 0);
        }
        Checks.refused(STATE, "the 33rd", () -> x.output(0));
    }

    private static void howManyPatternsThereWere() {
        FailDiagnose x = new FailDiagnose();
        int before = 0;
        for (int n : new int[] {1, 64, 64, 0, 0, 63, 2}) {
            Checks.due("patterns(" + n + ")", x.patterns(n), before);
            Checks.due("count", x.count(6), n);
            before = n;
        }
        x.clear();
        Checks.due("after clear", x.patterns(5), 0);
    }

    private static void patternsBesideTheMost() {
        FailDiagnose x = new FailDiagnose();
        x.patterns(3);
        for (int n : Checks.beside(65)) {
            Checks.refused(ARGUMENT, "patterns(" + n + ")", () -> x.patterns(n));
        }
        Checks.due("the last one taken", x.patterns(64), 3);
        Checks.due("the first one taken", x.patterns(0), 64);
    }

    private static void aRowAsItWasPut() {
        FailDiagnose x = Chips.inputs(1);
        long[] rows = {-1, 0, Long.MIN_VALUE, Long.MAX_VALUE, 1, 0x123456789abcdef0L, 5};
        long before = 0;
        for (int k = 0; k < rows.length; k++) {
            x.patterns(k % 3);
            Checks.due("row before " + rows[k], x.pattern(0, rows[k]), before);
            before = rows[k];
        }
    }

    private static void aRowByTheInputsNet() {
        FailDiagnose x = Chips.inputs(1);
        x.gate(5, 0, 0);
        int late = x.input();
        x.patterns(8);
        Checks.due("the second input is net 2", x.pattern(late, 7), 0);
        Checks.due("row of net 2", x.row(2), 7);
        Checks.due("row of net 0", x.row(0), 0);
        Checks.due("what it was", x.pattern(2, 0), 7);
    }

    private static void aRowOfAGate() {
        FailDiagnose x = Chips.inputs(2);
        for (int kind = 0; kind <= 6; kind++) {
            int gate = x.gate(kind, 0, 1);
            Checks.refused(INDEX, "pattern of a gate of kind " + kind, () -> x.pattern(gate, 1));
        }
    }

    private static void aRowOfNoNet() {
        FailDiagnose x = new FailDiagnose();
        Checks.refused(INDEX, "no nets yet", () -> x.pattern(0, 1));
        Chips.addInputs(x, 32);
        for (int net : Checks.beside(32)) {
            Checks.refused(INDEX, "pattern " + net, () -> x.pattern(net, 1));
        }
        Checks.due("the last input", x.pattern(31, 1), 0);
        x.clear();
        Checks.refused(INDEX, "after clear", () -> x.pattern(0, 1));
    }

    private static void aRowWithoutAFault() {
        FailDiagnose x = Chips.told();
        x.shows(1, 2, 0);
        Checks.due("after shows of a stuck net", x.row(2), 8);
        x.shows(3, 0, 0);
        Checks.due("after shows of a joined pair", x.row(0), 12);
        x.run();
        Checks.due("after run", x.row(2), 8);
        Checks.due("fails do not change it", x.row(1), 10);
    }

    private static void theRowOfNoNet() {
        FailDiagnose x = new FailDiagnose();
        Checks.refused(INDEX, "no nets yet", () -> x.row(0));
        Chips.addInputs(x, 1);
        for (int net : Checks.beside(1)) {
            Checks.refused(INDEX, "row " + net, () -> x.row(net));
        }
        FailDiagnose y = Chips.nots(200);
        Checks.due("row of the last net", y.row(199), 0);
        Checks.refused(INDEX, "row behind the last net", () -> y.row(200));
    }

    private static void failsAsTheyWerePut() {
        FailDiagnose x = Chips.inputs(1);
        x.output(0);
        long[] rows = {-1, 0, Long.MIN_VALUE, Long.MAX_VALUE, 1, 0x123456789abcdef0L, 5};
        long before = 0;
        for (int k = 0; k < rows.length; k++) {
            x.patterns(k % 3);
            Checks.due("fails before " + rows[k], x.fail(0, rows[k]), before);
            before = rows[k];
        }
    }

    private static void failsOfNoOutput() {
        FailDiagnose x = Chips.inputs(2);
        Checks.refused(INDEX, "no outputs yet", () -> x.fail(0, 1));
        x.output(1);
        for (int output : Checks.beside(1)) {
            Checks.refused(INDEX, "fail " + output, () -> x.fail(output, 1));
        }
        Checks.due("the only output", x.fail(0, 1), 0);
        x.clear();
        x.input();
        Checks.refused(INDEX, "after clear", () -> x.fail(0, 1));
    }

    private static void suchAPair() {
        FailDiagnose x = Chips.inputs(3);
        Checks.due("the first", x.near(2, 0), 0);
        Checks.due("the second", x.near(1, 2), 1);
        Checks.due("the first once more", x.near(2, 0), 0);
        Checks.due("the first, the other way round", x.near(0, 2), 0);
        Checks.due("the second, the other way round", x.near(2, 1), 1);
        Checks.due("pairs", x.count(3), 2);
        Checks.due("the third", x.near(0, 1), 2);
    }

    private static void pairsOfOneNetAreDifferentOnes() {
        FailDiagnose x = Chips.inputs(4);
        Checks.due("0 and 3", x.near(0, 3), 0);
        Checks.due("1 and 2 (the same sum)", x.near(1, 2), 1);
        Checks.due("0 and 2 (a first of one, a second of another)", x.near(0, 2), 2);
        Checks.due("1 and 3", x.near(1, 3), 3);
    }

    private static void nearNoNet() {
        FailDiagnose x = new FailDiagnose();
        Checks.refused(INDEX, "no nets yet", () -> x.near(0, 1));
        Chips.addInputs(x, 2);
        for (int net : Checks.beside(2)) {
            Checks.refused(INDEX, "a " + net, () -> x.near(net, 0));
            Checks.refused(INDEX, "b " + net, () -> x.near(0, net));
        }
        Checks.due("the last net", x.near(0, 1), 0);
    }

    /** Forty pairs of 13 inputs: each of 0 to 7 with each of 8 to 12. */
    private static FailDiagnose withFortyPairs() {
        FailDiagnose x = Chips.inputs(13);
        addFortyPairs(x);
        return x;
    }

    private static void addFortyPairs(FailDiagnose x) {
        for (int k = 0; k < 40; k++) {
            Checks.due("near", x.near(k % 8, 8 + k / 8), k);
        }
    }

    private static void the41stPair() {
        FailDiagnose x = withFortyPairs();
        Checks.due("forty", x.count(3), 40);
        Checks.refused(STATE, "the 41st", () -> x.near(0, 1));
        Checks.due("still forty", x.count(3), 40);
    }

    /** The document makes no difference between a new pair and one that there is, when there are 40. */
    private static void anyPairWhenThereAre40() {
        FailDiagnose x = withFortyPairs();
        Checks.refused(STATE, "the first pair once more", () -> x.near(0, 8));
        Checks.refused(STATE, "the last pair, the other way round", () -> x.near(12, 7));
    }

    private static void pairsAfterClear() {
        FailDiagnose x = withFortyPairs();
        x.clear();
        Chips.addInputs(x, 13);
        addFortyPairs(x);
        Checks.refused(STATE, "the 41st", () -> x.near(0, 1));
    }

    private static void oneReachesTheOther() {
        FailDiagnose x = Chips.andOfTwo();
        int not = x.gate(5, 2, 0);
        for (int input = 0; input < 2; input++) {
            int a = input;
            Checks.refused(ARGUMENT, "input " + a + " and AND", () -> x.near(a, 2));
            Checks.refused(ARGUMENT, "AND and input " + a, () -> x.near(2, a));
            Checks.refused(ARGUMENT, "input " + a + " and NOT", () -> x.near(a, not));
            Checks.refused(ARGUMENT, "NOT and input " + a, () -> x.near(not, a));
            Checks.refused(ARGUMENT, "input " + a + " and itself", () -> x.near(a, a));
        }
        Checks.due("pairs", x.count(3), 0);
        Checks.due("neither", x.near(0, 1), 0);
    }

    private static void netsAndPairsShow() {
        FailDiagnose x = Chips.told();
        x.output(0);
        long[][] stuckAt0 = {{8, 12}, {8, 0}, {8, 0}};
        long[][] stuckAt1 = {{2, 3}, {4, 0}, {7, 0}};
        for (int output = 0; output < 2; output++) {
            for (int net = 0; net < 3; net++) {
                Checks.due("net " + net + " at 0", x.shows(0, net, output), stuckAt0[net][output]);
                Checks.due("net " + net + " at 1", x.shows(1, net, output), stuckAt1[net][output]);
            }
        }
        Checks.due("joined by AND", x.shows(2, 0, 1), 4);
        Checks.due("joined by OR", x.shows(3, 0, 0), 6);
    }

    private static void showsOfNoKind() {
        FailDiagnose x = Chips.told();
        for (int kind : Checks.beside(4)) {
            Checks.refused(INDEX, "kind " + kind, () -> x.shows(kind, 0, 0));
        }
        Checks.due("the first kind", x.shows(0, 0, 0), 8);
        Checks.due("the last kind", x.shows(3, 0, 0), 6);
    }

    private static void showsOfTheLastOnes() {
        FailDiagnose x = Chips.full();
        Checks.due("the last net and output", x.shows(0, 199, 31), 0xaaaaaaaaaaaaaaaaL);
        Checks.refused(INDEX, "the net behind it", () -> x.shows(0, 200, 31));
        Checks.refused(INDEX, "the net behind it", () -> x.shows(1, 200, 31));
        Checks.refused(INDEX, "the output behind it", () -> x.shows(0, 199, 32));
        Checks.due("the last pair", x.shows(2, 39, 0), 0);
        Checks.refused(INDEX, "the pair behind it", () -> x.shows(2, 40, 0));
        Checks.refused(INDEX, "the pair behind it", () -> x.shows(3, 40, 0));
    }
}
