/** The document's terms of nets, patterns, reaching, faults and what they show. */
final class CircuitTerms {
    private CircuitTerms() {
    }

    static void tests(Sentences s) {
        s.section("Terms");
        s.test("0 AND, 1 OR, 2 XOR, 3 NOT AND, 4 NOT OR, 5 NOT of the first one, 6 the first one",
                CircuitTerms::eachKindInAllFourPatterns);
        String outputs = "OUTPUTS are nets, numbered likewise (32 at most)";
        s.test(outputs, CircuitTerms::thirtyTwoOutputs);
        s.test(outputs, CircuitTerms::gatesAndInputsAreOutputs);
        String patterns = "PATTERNS are 0 up to some number less one (64 at most): a ROW has a bit for each, bit k "
                + "for pattern k";
        s.test(patterns, CircuitTerms::bitOfTheLastPattern);
        String count = "only these bits count";
        s.test(count, CircuitTerms::bitsOfRows);
        s.test(count, CircuitTerms::bitsOfWhatIsShown);
        s.test(count, CircuitTerms::bitsOfFails);
        s.test(count, CircuitTerms::bitsOfTheBestPair);
        s.test(count, CircuitTerms::noPatternsAtAll);
        s.test(count, CircuitTerms::bitsThatDidNotCountAreKept);
        s.test("Each input has a row (0 at first)", CircuitTerms::rowsAreZeroAtFirst);
        String told = "a net's row is told by its gate, pattern by pattern";
        s.test(told, CircuitTerms::rowsOfTheLongestColumn);
        s.test(told, CircuitTerms::rowsFollowTheInputs);
        String reaches = "A net REACHES itself and, if a gate takes one that it reaches, that gate's net";
        s.test(reaches, CircuitTerms::aNetReachesItself);
        s.test(reaches, CircuitTerms::whatEachKindOfGateTakes);
        s.test(reaches, CircuitTerms::reachedThroughAllGates);
        s.test(reaches, CircuitTerms::besideOneAnotherIsNotReached);
        String near = "NEAR are pairs of nets of which neither reaches the other (40 at most), numbered likewise";
        s.test(near, CircuitTerms::fortyPairs);
        String stuck = "A FAULT is a net STUCK at 0 (kind 0) or 1 (kind 1): its row is that, whatever its gate tells";
        s.test(stuck, CircuitTerms::stuckWhateverItsGateTells);
        s.test(stuck, CircuitTerms::stuckAtWhatItIs);
        String joined = "or a near pair JOINED: both rows become the AND (kind 2) or the OR (3) of the rows that both "
                + "had without it";
        s.test(joined, CircuitTerms::joinedRows);
        s.test(joined, CircuitTerms::joinedWithTheSameRows);
        s.test(joined, CircuitTerms::joinedBehindGates);
        String shows = "What a fault SHOWS at an output is the row of those patterns in which the output is another "
                + "one than without a fault";
        s.test(shows, CircuitTerms::shownAtTheNetItself);
        s.test(shows, CircuitTerms::notShownWhereItDoesNotReach);
        s.test(shows, CircuitTerms::shownThroughTheLongestColumn);
    }

    private static void eachKindInAllFourPatterns() {
        FailDiagnose x = Chips.andOfTwo();
        long[] want = {8, 14, 6, 7, 1, 3, 12};
        for (int kind = 0; kind <= 6; kind++) {
            Checks.due("row of kind " + kind, x.row(x.gate(kind, 0, 1)), want[kind]);
        }
        long[] ofOne = {12, 12, 0, 3, 3, 3, 12};
        for (int kind = 0; kind <= 6; kind++) {
            Checks.due("row of kind " + kind + " of one net twice", x.row(x.gate(kind, 0, 0)), ofOne[kind]);
        }
    }

    private static void thirtyTwoOutputs() {
        FailDiagnose x = Chips.inputs(32);
        x.patterns(1);
        for (int k = 0; k < 32; k++) {
            Checks.due("output", x.output(31 - k), k);
        }
        Checks.refused(Checks.STATE, "the 33rd", () -> x.output(0));
        Checks.due("the first is net 31", x.shows(1, 31, 0), 1);
        Checks.due("the last is net 0", x.shows(1, 0, 31), 1);
        Checks.due("the last is no other net", x.shows(1, 1, 31), 0);
    }

    private static void gatesAndInputsAreOutputs() {
        FailDiagnose x = Chips.nots(200);
        Checks.due("the first net", x.output(0), 0);
        Checks.due("the last net", x.output(199), 1);
        Checks.due("numbers are not of nets", x.count(2), 2);
    }

    private static void bitOfTheLastPattern() {
        FailDiagnose x = Chips.inputs(1);
        for (int n = 1; n <= 64; n++) {
            x.pattern(0, 1L << (n - 1));
            x.patterns(n - 1);
            Checks.due("bit " + (n - 1) + " of " + (n - 1) + " patterns", x.row(0), 0);
            x.patterns(n);
            Checks.due("bit " + (n - 1) + " of " + n + " patterns", x.row(0), 1L << (n - 1));
        }
    }

    private static void bitsOfRows() {
        FailDiagnose x = Chips.nots(2);
        x.pattern(0, 0x5555555555555555L);
        int[] numbers = {0, 1, 2, 31, 32, 33, 63, 64};
        long[] inputs = {0, 1, 1, 0x55555555L, 0x55555555L, 0x155555555L, 0x5555555555555555L, 0x5555555555555555L};
        long[] nots = {0, 0, 2, 0x2aaaaaaaL, 0xaaaaaaaaL, 0xaaaaaaaaL, 0x2aaaaaaaaaaaaaaaL, 0xaaaaaaaaaaaaaaaaL};
        for (int k = 0; k < numbers.length; k++) {
            x.patterns(numbers[k]);
            Checks.due("row of an input of " + numbers[k], x.row(0), inputs[k]);
            Checks.due("row of its NOT of " + numbers[k], x.row(1), nots[k]);
        }
    }

    private static void bitsOfWhatIsShown() {
        FailDiagnose x = Chips.inputs(2);
        x.output(0);
        x.pattern(1, -1);
        x.near(0, 1);
        int[] numbers = {0, 1, 32, 63, 64};
        long[] want = {0, 1, 0xffffffffL, Long.MAX_VALUE, -1};
        for (int k = 0; k < numbers.length; k++) {
            x.patterns(numbers[k]);
            Checks.due("stuck, of " + numbers[k], x.shows(1, 0, 0), want[k]);
            Checks.due("joined, of " + numbers[k], x.shows(3, 0, 0), want[k]);
        }
    }

    private static void bitsOfFails() {
        FailDiagnose x = Chips.inputs(1);
        x.output(0);
        x.fail(0, 0b1010);
        x.patterns(1);
        Checks.due("the fails lie behind the patterns", x.run(), 0);
        x.patterns(2);
        Checks.due("the first one is the last pattern", x.run(), 1);
        Checks.due("explained", x.suspect(0, 4), 1);
        Checks.due("missed", x.suspect(0, 5), 0);
        Checks.due("wrong", x.suspect(0, 6), 1);
        x.patterns(4);
        Checks.due("both count", x.run(), 1);
        Checks.due("explained", x.suspect(0, 4), 2);
        x.fail(0, -1);
        x.pattern(0, 7);
        Checks.due("all of them count", x.run(), 2);
        Checks.due("explained by stuck at 0", x.suspect(0, 4), 3);
        Checks.due("missed by stuck at 0", x.suspect(0, 5), 1);
    }

    private static void bitsOfTheBestPair() {
        FailDiagnose x = Chips.failingInputs(2);
        x.fail(0, -1);
        x.fail(1, -1);
        x.patterns(3);
        x.run();
        Checks.due("explained", x.pair(3), 6);
        Checks.due("missed", x.pair(4), 0);
        x.fail(1, -8);
        x.run();
        Checks.due("net 1 has no suspects now", x.pair(0), FailDiagnose.NONE);
    }

    private static void noPatternsAtAll() {
        FailDiagnose x = Chips.failingInputs(2);
        x.pattern(0, -1);
        x.fail(0, -1);
        x.near(0, 1);
        x.patterns(0);
        Checks.due("row", x.row(0), 0);
        Checks.due("shows", x.shows(0, 0, 0), 0);
        Checks.due("suspects", x.run(), 0);
        Checks.due("pair", x.pair(0), FailDiagnose.NONE);
        Checks.due("join", x.join(), 0);
    }

    private static void bitsThatDidNotCountAreKept() {
        FailDiagnose x = Chips.nots(2);
        x.patterns(64);
        x.pattern(0, 0x0f0f0f0f0f0f0f0fL);
        x.patterns(0);
        x.gate(6, 0, 0);
        x.patterns(64);
        Checks.due("row of the input", x.row(0), 0x0f0f0f0f0f0f0f0fL);
        Checks.due("row of the NOT", x.row(1), 0xf0f0f0f0f0f0f0f0L);
        Checks.due("row of the gate made without patterns", x.row(2), 0x0f0f0f0f0f0f0f0fL);
    }

    private static void rowsAreZeroAtFirst() {
        FailDiagnose x = new FailDiagnose();
        x.patterns(64);
        for (int k = 0; k < 32; k++) {
            x.input();
            Checks.due("row of a new input", x.row(k), 0);
            Checks.due("what it was", x.pattern(k, -1), 0);
        }
        x.clear();
        x.patterns(64);
        x.input();
        Checks.due("row of a new input after clear", x.row(0), 0);
        Checks.due("what it was after clear", x.pattern(0, 1), 0);
    }

    private static void rowsOfTheLongestColumn() {
        FailDiagnose x = Chips.nots(200);
        x.patterns(2);
        x.pattern(0, 1);
        for (int net = 0; net < 200; net++) {
            Checks.due("row of net " + net, x.row(net), net % 2 == 0 ? 1 : 2);
        }
    }

    private static void rowsFollowTheInputs() {
        FailDiagnose x = Chips.inputs(1);
        x.patterns(4);
        x.pattern(0, 3);
        int before = x.gate(5, 0, 0);
        int late = x.input();
        int and = x.gate(0, before, late);
        Checks.due("a gate put behind the row", x.row(before), 12);
        Checks.due("a gate of an input without a row", x.row(and), 0);
        x.pattern(late, 8);
        Checks.due("a gate put before the row", x.row(and), 8);
        x.pattern(0, 8);
        Checks.due("the first gate follows", x.row(before), 7);
        Checks.due("the one behind it follows", x.row(and), 0);
        Checks.due("the other input does not", x.row(late), 8);
    }

    private static void aNetReachesItself() {
        FailDiagnose x = Chips.nots(200);
        for (int net : new int[] {0, 1, 199}) {
            Checks.refused(Checks.ARGUMENT, "near itself, " + net, () -> x.near(net, net));
        }
    }

    private static void whatEachKindOfGateTakes() {
        for (int kind = 0; kind <= 6; kind++) {
            FailDiagnose x = Chips.inputs(2);
            int gate = x.gate(kind, 0, 1);
            Checks.refused(Checks.ARGUMENT, "kind " + kind + " takes the first", () -> x.near(0, gate));
            if (kind < 5) {
                Checks.refused(Checks.ARGUMENT, "kind " + kind + " takes the second", () -> x.near(1, gate));
            } else {
                Checks.due("kind " + kind + " does not take the second", x.near(1, gate), 0);
            }
        }
    }

    private static void reachedThroughAllGates() {
        FailDiagnose x = Chips.nots(199);
        int apart = x.input();
        Checks.refused(Checks.ARGUMENT, "the first one and the last", () -> x.near(0, 198));
        Checks.refused(Checks.ARGUMENT, "the last one and the first", () -> x.near(198, 0));
        Checks.refused(Checks.ARGUMENT, "the last two", () -> x.near(197, 198));
        Checks.due("one apart", x.near(apart, 198), 0);
        FailDiagnose y = Chips.inputs(3);
        int and = y.gate(0, 1, 2);
        int or = y.gate(1, 0, and);
        Checks.refused(Checks.ARGUMENT, "through second ones", () -> y.near(2, or));
        Checks.refused(Checks.ARGUMENT, "through a second one", () -> y.near(1, or));
    }

    private static void besideOneAnotherIsNotReached() {
        FailDiagnose x = Chips.inputs(2);
        int not = x.gate(5, 0, 0);
        int same = x.gate(6, 0, 0);
        int both = x.gate(0, not, same);
        Checks.due("two gates of one input", x.near(not, same), 0);
        Checks.due("two inputs", x.near(1, 0), 1);
        Checks.due("an input and gates of another", x.near(both, 1), 2);
        x.gate(1, both, 1);
        Checks.due("still, when a gate takes both", x.near(1, not), 3);
    }

    private static void fortyPairs() {
        FailDiagnose x = Chips.inputs(13);
        for (int k = 0; k < 40; k++) {
            Checks.due("near", x.near(k % 8, 8 + k / 8), k);
        }
        Checks.refused(Checks.STATE, "the 41st", () -> x.near(0, 1));
        x.output(12);
        x.patterns(1);
        x.pattern(7, 1);
        Checks.due("the last one is of nets 7 and 12", x.shows(3, 39, 0), 1);
        Checks.due("the one before it is of net 6", x.shows(3, 38, 0), 0);
    }

    private static void stuckWhateverItsGateTells() {
        FailDiagnose x = Chips.andOfTwo();
        x.gate(5, 2, 0);
        x.output(3);
        x.output(0);
        Checks.due("AND stuck at 0", x.shows(0, 2, 0), 8);
        Checks.due("AND stuck at 1", x.shows(1, 2, 0), 7);
        Checks.due("AND stuck at 1, at the NOT behind it", x.shows(1, 2, 1), 7);
        Checks.due("AND stuck at 1, at the input before it", x.shows(1, 2, 2), 0);
        Checks.due("input stuck at 0, at itself", x.shows(0, 0, 2), 12);
        Checks.due("input stuck at 1, at itself", x.shows(1, 0, 2), 3);
        Checks.due("without a fault all is as before", x.row(2), 8);
    }

    private static void stuckAtWhatItIs() {
        FailDiagnose x = Chips.nots(2);
        x.output(0);
        x.output(1);
        x.patterns(64);
        for (int output = 0; output < 2; output++) {
            Checks.due("0 stuck at 0", x.shows(0, 0, output), 0);
            Checks.due("1 stuck at 1", x.shows(1, 1, output), 0);
            Checks.due("0 stuck at 1", x.shows(1, 0, output), -1);
        }
    }

    private static void joinedRows() {
        FailDiagnose x = Chips.andOfTwo();
        x.near(0, 1);
        x.output(0);
        x.output(1);
        x.output(x.gate(2, 0, 1));
        long[] byAnd = {0, 4, 2, 6};
        long[] byOr = {6, 2, 4, 6};
        for (int output = 0; output < 4; output++) {
            Checks.due("joined by AND at " + output, x.shows(2, 0, output), byAnd[output]);
            Checks.due("joined by OR at " + output, x.shows(3, 0, output), byOr[output]);
        }
    }

    private static void joinedWithTheSameRows() {
        FailDiagnose x = Chips.inputs(2);
        x.near(0, 1);
        x.output(0);
        x.output(1);
        x.patterns(64);
        for (long row : new long[] {0, -1, 0x123456789abcdefL}) {
            x.pattern(0, row);
            x.pattern(1, row);
            for (int output = 0; output < 2; output++) {
                Checks.due("joined by AND", x.shows(2, 0, output), 0);
                Checks.due("joined by OR", x.shows(3, 0, output), 0);
            }
        }
    }

    /** The second net of the pair is made by a gate, and both have a gate behind them. */
    private static void joinedBehindGates() {
        FailDiagnose x = Chips.andOfTwo();
        int not = x.gate(5, 1, 0);
        int pair = x.near(not, 0);
        x.output(x.gate(6, not, 0));
        x.output(x.gate(1, 0, not));
        Checks.due("row of NOT", x.row(not), 5);
        Checks.due("joined by OR, behind NOT", x.shows(3, pair, 1), 8);
        Checks.due("joined by AND, behind NOT", x.shows(2, pair, 1), 1);
        Checks.due("joined by OR, at the OR", x.shows(3, pair, 2), 0);
        Checks.due("joined by AND, at the OR", x.shows(2, pair, 2), 9);
        Checks.due("joined by OR, at the AND of input 0", x.shows(3, pair, 0), 0);
        Checks.due("joined by AND, at the AND of input 0", x.shows(2, pair, 0), 8);
    }

    private static void shownAtTheNetItself() {
        FailDiagnose x = Chips.inputs(1);
        x.output(0);
        x.output(0);
        x.patterns(64);
        x.pattern(0, Long.MIN_VALUE + 1);
        for (int output = 0; output < 2; output++) {
            Checks.due("stuck at 0", x.shows(0, 0, output), Long.MIN_VALUE + 1);
            Checks.due("stuck at 1", x.shows(1, 0, output), Long.MAX_VALUE - 1);
        }
    }

    private static void notShownWhereItDoesNotReach() {
        FailDiagnose x = Chips.inputs(2);
        int not = x.gate(5, 0, 1);
        x.output(not);
        x.output(1);
        x.patterns(64);
        Checks.due("the input that NOT does not take", x.shows(1, 1, 0), 0);
        Checks.due("another input", x.shows(1, 0, 1), 0);
        Checks.due("a gate of another input", x.shows(0, not, 1), 0);
    }

    private static void shownThroughTheLongestColumn() {
        FailDiagnose x = Chips.nots(200);
        x.output(199);
        x.patterns(64);
        x.pattern(0, 0x7fffffff00000000L);
        Checks.due("the first one stuck at 0", x.shows(0, 0, 0), 0x7fffffff00000000L);
        Checks.due("the first one stuck at 1", x.shows(1, 0, 0), ~0x7fffffff00000000L);
        Checks.due("the last one stuck at 0", x.shows(0, 199, 0), ~0x7fffffff00000000L);
        Checks.due("the last one stuck at 1", x.shows(1, 199, 0), 0x7fffffff00000000L);
    }
}
