/** The document's terms of fails, sums, suspects, pairs, shares, and how long suspects are told. */
final class SuspectTerms {
    private static final int NONE = FailDiagnose.NONE;

    private SuspectTerms() {
    }

    static void tests(Sentences s) {
        s.section("Terms");
        s.test("FAILS of an output are a row: in which patterns it was wrong", SuspectTerms::failsOfTheLastPattern);
        String over = "Of a fault, over all outputs: EXPLAINED are fails that it shows, MISSED fails that it does not "
                + "show, WRONG what it shows that is no fail";
        s.test(over, SuspectTerms::eachOfTheThree);
        s.test(over, SuspectTerms::overTheSameNetTwice);
        s.test(over, SuspectTerms::overAllOutputsAndPatterns);
        String sum = "ITS SUM is 2 times MISSED and WRONG";
        s.test(sum, SuspectTerms::missedCountTwice);
        String suspects = "SUSPECTS are faults that explain something, in the order of their sums, the least first";
        s.test(suspects, SuspectTerms::whatExplainsNothingIsNoSuspect);
        s.test(suspects, SuspectTerms::whatExplainsOneFailIsASuspect);
        s.test(suspects, SuspectTerms::leastSumFirst);
        s.test(suspects, SuspectTerms::nothingToExplain);
        String same = "of the same sum by their kinds, then by net, or number of the near pair";
        s.test(same, SuspectTerms::sameSumByKind);
        s.test(same, SuspectTerms::sameSumByNet);
        s.test(same, SuspectTerms::sameSumByNumberOfThePair);
        String pairs = "PAIRS: of the first 12 suspects that are stuck nets, two of different nets: both are stuck at "
                + "once, and what they show, and their sum, are that of both together";
        s.test(pairs, SuspectTerms::theTwelfthIsTried);
        s.test(pairs, SuspectTerms::theThirteenthIsNotTried);
        s.test(pairs, SuspectTerms::joinedOnesAreNotAmongTheTwelve);
        s.test(pairs, SuspectTerms::ofOneNetIsNoPair);
        s.test(pairs, SuspectTerms::joinedOnesAreNoPair);
        s.test(pairs, SuspectTerms::bothAtOnceHideOneAnother);
        s.test(pairs, SuspectTerms::bothAtOnceShowMore);
        s.test(pairs, SuspectTerms::oneReachesTheOther);
        s.test("those that explain something", SuspectTerms::aPairThatExplainsNothingIsNone);
        String best = "The best pair has the least sum, of these the one whose first suspect comes first, then the "
                + "second";
        s.test(best, SuspectTerms::theLeastSumWins);
        s.test(best, SuspectTerms::ofTheSameSumByTheFirst);
        s.test(best, SuspectTerms::ofTheSameFirstByTheSecond);
        String shares = "SHARES: when chips are JOINED, each suspect of the least sum (all n of them, if these are 10 "
                + "at most) gives 2520 / n, rounded down, to each of its nets";
        s.test(shares, SuspectTerms::oneToTenGive);
        s.test(shares, SuspectTerms::elevenDoNotGive);
        s.test(shares, SuspectTerms::onlyThoseOfTheLeastSumGive);
        s.test(shares, SuspectTerms::bothNetsOfAPairAreGiven);
        s.test(shares, SuspectTerms::chipsAddUp);
        String told = "TOLD are runs' suspects as long as no net, output, row, number of patterns, fails or near pair "
                + "was put since (also if nothing changed by that)";
        s.test(told, SuspectTerms::aNetWasPut);
        s.test(told, SuspectTerms::anOutputWasPut);
        s.test(told, SuspectTerms::aRowWasPut);
        s.test(told, SuspectTerms::aNumberOfPatternsWasPut);
        s.test(told, SuspectTerms::failsWerePut);
        s.test(told, SuspectTerms::aNearPairWasPut);
        s.test(told, SuspectTerms::otherCallsLeaveThemTold);
    }

    private static void failsOfTheLastPattern() {
        FailDiagnose x = Chips.inputs(1);
        x.output(0);
        x.patterns(64);
        for (int pattern : new int[] {0, 31, 32, 63}) {
            x.pattern(0, ~(1L << pattern));
            x.fail(0, 1L << pattern);
            Checks.due("fail of pattern " + pattern, x.run(), 1);
            Checks.due("stuck at 1 explains it alone", x.suspect(0, 0) * 10 + x.suspect(0, 3), 10);
        }
    }

    private static void suspectIs(FailDiagnose x, int k, int... want) {
        for (int what = 0; what < want.length; what++) {
            Checks.due("suspect(" + k + ", " + what + ")", x.suspect(k, what), want[what]);
        }
    }

    private static void pairIs(FailDiagnose x, int... want) {
        for (int what = 0; what < want.length; what++) {
            Checks.due("pair(" + what + ")", x.pair(what), want[what]);
        }
    }

    private static void eachOfTheThree() {
        FailDiagnose x = Chips.inputs(1);
        x.output(0);
        x.patterns(6);
        x.pattern(0, 0b111000);
        x.fail(0, 0b110001);
        x.run();
        suspectIs(x, 0, 0, 0, NONE, 3, 2, 1, 1);
        suspectIs(x, 1, 1, 0, NONE, 6, 1, 2, 2);
    }

    private static void overTheSameNetTwice() {
        FailDiagnose x = Chips.inputs(1);
        x.output(0);
        x.output(0);
        x.patterns(3);
        x.fail(0, 0b001);
        x.fail(1, 0b011);
        x.run();
        suspectIs(x, 0, 1, 0, NONE, 3, 3, 0, 3);
    }

    private static void overAllOutputsAndPatterns() {
        FailDiagnose x = Chips.inputs(1);
        for (int k = 0; k < 32; k++) {
            x.fail(x.output(0), -1);
        }
        x.patterns(64);
        x.run();
        suspectIs(x, 0, 1, 0, NONE, 0, 2048, 0, 0);
        x.pattern(0, -2);
        x.run();
        suspectIs(x, 0, 0, 0, NONE, 64, 2016, 32, 0);
        suspectIs(x, 1, 1, 0, NONE, 4032, 32, 2016, 0);
    }

    private static void missedCountTwice() {
        FailDiagnose x = Chips.inputs(2);
        x.output(0);
        x.output(1);
        x.patterns(8);
        x.fail(0, 0b00000001);
        x.fail(1, 0b00000111);
        x.run();
        suspectIs(x, 0, 1, 1, NONE, 7, 3, 1, 5);
        suspectIs(x, 1, 1, 0, NONE, 13, 1, 3, 7);
    }

    private static void whatExplainsNothingIsNoSuspect() {
        FailDiagnose x = Chips.inputs(2);
        x.output(0);
        x.output(1);
        x.patterns(2);
        x.fail(0, 1);
        x.pattern(0, 2);
        Checks.due("only one explains it", x.run(), 1);
        suspectIs(x, 0, 1, 0, NONE, 0, 1, 0, 0);
    }

    private static void whatExplainsOneFailIsASuspect() {
        FailDiagnose x = Chips.inputs(2);
        for (int k = 0; k < 32; k++) {
            x.fail(x.output(k == 0 ? 0 : 1), k == 0 ? 1 : -1);
        }
        x.patterns(64);
        Checks.due("run", x.run(), 2);
        suspectIs(x, 1, 1, 0, NONE, 2 * 31 * 64 + 63, 1, 31 * 64, 63);
    }

    private static void leastSumFirst() {
        FailDiagnose x = Chips.inputs(5);
        x.patterns(8);
        int[] fails = {0b1, 0b1111, 0b11, 0b11111, 0b111};
        for (int k = 0; k < 5; k++) {
            x.fail(x.output(k), fails[k]);
        }
        Checks.due("run", x.run(), 5);
        int[] nets = {3, 1, 4, 2, 0};
        for (int k = 0; k < 5; k++) {
            suspectIs(x, k, 1, nets[k], NONE, 2 * (15 - (5 - k)) + 8 - (5 - k), 5 - k);
        }
    }

    private static void nothingToExplain() {
        FailDiagnose x = Chips.inputs(2);
        x.patterns(4);
        x.near(0, 1);
        Checks.due("no outputs", x.run(), 0);
        x.output(0);
        Checks.due("no fails", x.run(), 0);
        x.fail(0, 16);
        Checks.due("fails behind the patterns", x.run(), 0);
    }

    /** Net 0 is 01 and net 1 is 10: each fault shows one fail and nothing else. */
    private static void sameSumByKind() {
        FailDiagnose x = Chips.inputs(2);
        x.patterns(2);
        x.pattern(0, 1);
        x.pattern(1, 2);
        x.near(0, 1);
        x.fail(x.output(0), 3);
        Checks.due("run", x.run(), 4);
        int[] seconds = {NONE, NONE, 1, 1};
        for (int kind = 0; kind < 4; kind++) {
            suspectIs(x, kind, kind, 0, seconds[kind], 2, 1, 1, 0);
        }
    }

    private static void sameSumByNet() {
        FailDiagnose x = Chips.failingInputs(32);
        Checks.due("run", x.run(), 32);
        for (int k = 0; k < 32; k++) {
            suspectIs(x, k, 1, k);
        }
    }

    /** Pair 0 has the higher nets. */
    private static void sameSumByNumberOfThePair() {
        FailDiagnose x = Chips.inputs(4);
        x.patterns(2);
        for (int k = 0; k < 4; k++) {
            x.pattern(k, k % 2 == 0 ? 1 : 2);
            x.fail(x.output(k), k % 2 == 0 ? 2 : 1);
        }
        x.near(2, 3);
        x.near(0, 1);
        Checks.due("run", x.run(), 6);
        suspectIs(x, 0, 3, 2, 3, 4, 2, 2, 0);
        suspectIs(x, 1, 3, 0, 1, 4, 2, 2, 0);
        suspectIs(x, 2, 1, 0, NONE, 6, 1, 3, 0);
    }

    /** Inputs that fail, and for each two of them an AND that fails too: only both at once show that. */
    private static FailDiagnose failingAnds(int inputs, int[]... twos) {
        FailDiagnose x = Chips.failingInputs(inputs);
        for (int[] two : twos) {
            x.fail(x.output(x.gate(0, two[0], two[1])), 1);
        }
        x.run();
        return x;
    }

    private static void theTwelfthIsTried() {
        FailDiagnose x = failingAnds(12, new int[] {0, 11});
        Checks.due("suspects", x.count(4), 13);
        pairIs(x, 0, 11, 20, 3, 10, 0);
    }

    private static void theThirteenthIsNotTried() {
        FailDiagnose x = failingAnds(13, new int[] {0, 12});
        Checks.due("suspects", x.count(4), 14);
        pairIs(x, 0, 1, 24, 2, 12, 0);
        FailDiagnose y = failingAnds(14, new int[] {12, 13});
        pairIs(y, 0, 1, 26, 2, 13, 0);
    }

    /** A joined pair explains two fails, so it is suspect 0; behind it come twelve or more stuck nets. */
    private static void joinedOnesAreNotAmongTheTwelve() {
        for (int n = 12; n <= 13; n++) {
            FailDiagnose x = Chips.inputs(n + 2);
            x.patterns(2);
            for (int k = 0; k < n + 2; k++) {
                x.pattern(k, k == n ? 1 : 2);
                x.fail(x.output(k), k == n ? 2 : 1);
            }
            x.fail(x.output(x.gate(0, 0, n - 1)), 1);
            x.near(n, n + 1);
            Checks.due("suspects", x.run(), n + 4);
            Checks.due("the first one is joined", x.suspect(0, 0), 3);
            if (n == 12) {
                pairIs(x, 1, 12, 2 * 12, 3, 12, 0);
            } else {
                pairIs(x, 1, 2, 2 * 14, 2, 14, 0);
            }
        }
    }

    private static void ofOneNetIsNoPair() {
        FailDiagnose x = Chips.inputs(2);
        x.patterns(2);
        x.pattern(0, 1);
        x.fail(x.output(0), 3);
        Checks.due("stuck at 0 and at 1", x.run(), 2);
        pairIs(x, NONE, NONE, 0, 0, 0, 0);
        x.fail(x.output(1), 1);
        Checks.due("and another net", x.run(), 3);
        suspectIs(x, 0, 0, 0);
        suspectIs(x, 1, 1, 0);
        suspectIs(x, 2, 1, 1);
        pairIs(x, 0, 2, 3, 2, 1, 1);
    }

    private static void joinedOnesAreNoPair() {
        FailDiagnose x = Chips.inputs(2);
        x.patterns(1);
        x.pattern(1, 1);
        x.near(0, 1);
        x.fail(x.output(0), 1);
        Checks.due("stuck and joined", x.run(), 2);
        suspectIs(x, 0, 1, 0, NONE);
        suspectIs(x, 1, 3, 0, 1);
        pairIs(x, NONE, NONE, 0, 0, 0, 0);
    }

    private static void bothAtOnceHideOneAnother() {
        FailDiagnose x = Chips.inputs(2);
        x.patterns(2);
        x.fail(x.output(x.gate(2, 0, 1)), 1);
        x.fail(x.output(0), 1);
        Checks.due("run", x.run(), 3);
        suspectIs(x, 0, 1, 0, NONE, 2, 2, 0, 2);
        suspectIs(x, 1, 1, 1, NONE, 3, 1, 1, 1);
        suspectIs(x, 2, 1, 2, NONE, 3, 1, 1, 1);
        pairIs(x, 0, 2, 2, 2, 0, 2);
    }

    private static void bothAtOnceShowMore() {
        FailDiagnose x = failingAnds(2, new int[] {0, 1});
        Checks.due("suspects", x.count(4), 3);
        pairIs(x, 0, 1, 0, 3, 0, 0);
    }

    /** The net behind is stuck, whatever the one before it is. */
    private static void oneReachesTheOther() {
        FailDiagnose x = Chips.nots(2);
        x.patterns(2);
        x.pattern(0, 1);
        x.fail(x.output(0), 2);
        x.fail(x.output(1), 1);
        Checks.due("run", x.run(), 3);
        suspectIs(x, 0, 1, 1, NONE, 2, 1, 1, 0);
        suspectIs(x, 1, 0, 0, NONE, 3, 1, 1, 1);
        suspectIs(x, 2, 1, 0, NONE, 3, 1, 1, 1);
        pairIs(x, 0, 2, 0, 2, 0, 0);
    }

    /** Both inputs together show nothing, which would be the least sum. */
    private static void aPairThatExplainsNothingIsNone() {
        FailDiagnose x = Chips.inputs(2);
        x.patterns(8);
        x.fail(x.output(x.gate(2, 0, 1)), 1);
        Checks.due("run", x.run(), 3);
        pairIs(x, 0, 2, 7, 1, 0, 7);
    }

    private static void theLeastSumWins() {
        FailDiagnose x = failingAnds(4, new int[] {2, 3});
        pairIs(x, 2, 3, 4, 3, 2, 0);
    }

    private static void ofTheSameSumByTheFirst() {
        FailDiagnose x = failingAnds(4, new int[] {1, 2}, new int[] {0, 3});
        pairIs(x, 0, 3, 6, 3, 3, 0);
    }

    private static void ofTheSameFirstByTheSecond() {
        FailDiagnose x = failingAnds(4, new int[] {0, 3}, new int[] {0, 2});
        pairIs(x, 0, 2, 6, 3, 3, 0);
    }

    private static void oneToTenGive() {
        int[] each = {2520, 1260, 840, 630, 504, 420, 360, 315, 280, 252};
        for (int n = 1; n <= 10; n++) {
            FailDiagnose x = Chips.failingInputs(n);
            x.run();
            Checks.due("least of " + n, x.join(), n);
            Checks.due("share of the first of " + n, x.share(0), each[n - 1]);
            Checks.due("share of the last of " + n, x.share(n - 1), each[n - 1]);
        }
    }

    private static void elevenDoNotGive() {
        for (int n = 11; n <= 32; n++) {
            FailDiagnose x = Chips.failingInputs(n);
            x.run();
            Checks.due("least of " + n, x.join(), n);
            Checks.due("chips", x.count(8), 1);
            Checks.due("share of the first of " + n, x.share(0), 0);
            Checks.due("share of the last of " + n, x.share(n - 1), 0);
        }
    }

    private static void onlyThoseOfTheLeastSumGive() {
        FailDiagnose x = Chips.failingInputs(12);
        x.patterns(2);
        x.fail(3, 3);
        x.fail(7, 3);
        Checks.due("suspects", x.run(), 12);
        Checks.due("two of them have the least sum", x.join(), 2);
        for (int net = 0; net < 12; net++) {
            Checks.due("share of " + net, x.share(net), net == 3 || net == 7 ? 1260 : 0);
        }
    }

    private static void bothNetsOfAPairAreGiven() {
        FailDiagnose x = Chips.inputs(3);
        x.patterns(2);
        x.pattern(0, 1);
        x.pattern(1, 2);
        x.near(0, 1);
        x.fail(x.output(0), 3);
        x.run();
        Checks.due("stuck at 0 and 1, joined by AND and OR", x.join(), 4);
        Checks.due("net 0 is of all four", x.share(0), 2520);
        Checks.due("net 1 is of the joined ones", x.share(1), 1260);
        Checks.due("net 2 of none", x.share(2), 0);
    }

    private static void chipsAddUp() {
        FailDiagnose x = Chips.failingInputs(3);
        x.run();
        x.join();
        x.join();
        x.fail(0, 0);
        x.run();
        x.join();
        Checks.due("share of net 0", x.share(0), 2 * 840);
        Checks.due("share of net 1", x.share(1), 2 * 840 + 1260);
        Checks.due("chips", x.count(8), 3);
    }

    private static void noLongerTold(FailDiagnose x, String since) {
        Checks.due("suspects after " + since, x.count(4), 0);
        Checks.refused(Checks.STATE, "suspect after " + since, () -> x.suspect(0, 0));
        Checks.refused(Checks.STATE, "pair after " + since, () -> x.pair(0));
        Checks.refused(Checks.STATE, "join after " + since, x::join);
        Checks.due("run after " + since, x.run(), x.count(4));
        Checks.due("told again", x.suspect(0, 0), 0);
    }

    private static void aNetWasPut() {
        FailDiagnose x = Chips.told();
        x.input();
        noLongerTold(x, "an input");
        x.gate(5, 0, 0);
        noLongerTold(x, "a gate");
    }

    private static void anOutputWasPut() {
        FailDiagnose x = Chips.told();
        x.output(2);
        noLongerTold(x, "an output");
    }

    private static void aRowWasPut() {
        FailDiagnose x = Chips.told();
        x.pattern(0, 12);
        noLongerTold(x, "the same row");
        x.pattern(1, 8);
        noLongerTold(x, "another row");
    }

    private static void aNumberOfPatternsWasPut() {
        FailDiagnose x = Chips.told();
        x.patterns(4);
        noLongerTold(x, "the same number of patterns");
        x.patterns(64);
        noLongerTold(x, "another number of patterns");
    }

    private static void failsWerePut() {
        FailDiagnose x = Chips.told();
        x.fail(0, 8);
        noLongerTold(x, "the same fails");
        x.fail(0, 9);
        noLongerTold(x, "other fails");
    }

    private static void aNearPairWasPut() {
        FailDiagnose x = Chips.told();
        x.near(0, 1);
        noLongerTold(x, "the same pair");
        x.near(1, 0);
        noLongerTold(x, "the same pair, the other way round");
        x.input();
        x.run();
        x.near(3, 2);
        noLongerTold(x, "another pair");
    }

    private static void stillTold(FailDiagnose x, String since) {
        Checks.due("suspects after " + since, x.count(4), 3);
        suspectIs(x, 2, 0, 2, NONE, 0, 1, 0, 0);
        pairIs(x, 0, 1, 0, 1, 0, 0);
    }

    private static void otherCallsLeaveThemTold() {
        FailDiagnose x = Chips.told();
        x.row(0);
        stillTold(x, "row");
        x.shows(1, 0, 0);
        stillTold(x, "shows of a stuck net");
        x.shows(3, 0, 0);
        stillTold(x, "shows of a joined pair");
        x.join();
        stillTold(x, "join");
        x.share(0);
        stillTold(x, "share");
        x.chain(3);
        stillTold(x, "chain");
        x.caught(1, 1);
        stillTold(x, "caught");
        x.span(0, 0);
        stillTold(x, "span");
        x.shape(0, 0, 0, 1, 1);
        stillTold(x, "shape");
        x.area(0, 1);
        stillTold(x, "area");
        x.common(0, 1, 1);
        stillTold(x, "common");
        x.count(0);
        stillTold(x, "count");
        x.run();
        stillTold(x, "run");
    }
}
