/** The sentences of promises 11 to 15: run, suspects, the best pair, joined chips and shares. */
final class SuspectPromises {
    private static final Class<?> INDEX = Checks.INDEX;
    private static final Class<?> STATE = Checks.STATE;
    private static final int NONE = FailDiagnose.NONE;

    private SuspectPromises() {
    }

    static void tests(Sentences s) {
        s.section("Promise 11: run");
        String run = "Finds all suspects, and the best pair: how many suspects there are";
        s.test(run, SuspectPromises::runOnNothing);
        s.test(run, SuspectPromises::runOnAllThereMayBe);
        s.test(run, SuspectPromises::runOnceMore);
        s.test(run, SuspectPromises::runForgetsTheLastOne);

        s.section("Promise 12: suspect");
        String suspect = "Of suspect k: what = 0 its kind, 1 its net (the first one of the pair), 2 the second net of "
                + "the pair (NONE), 3 SUM, 4 EXPLAINED, 5 MISSED, 6 WRONG";
        s.test(suspect, SuspectPromises::allOfAStuckNet);
        s.test(suspect, SuspectPromises::allOfAJoinedPair);
        s.test(suspect, SuspectPromises::theLastOf480);
        s.test("IndexOutOfBoundsException: there is no such what", SuspectPromises::noSuchWhatOfASuspect);
        s.test("IllegalStateException: none are TOLD", SuspectPromises::noSuspectsAreTold);
        s.test("IndexOutOfBoundsException: there is no such suspect", SuspectPromises::noSuchSuspect);
        s.test("IndexOutOfBoundsException: there is no such suspect", SuspectPromises::noSuspectsAtAll);

        s.section("Promise 13: pair");
        String pair = "Of the best pair: what = 0 and 1 which suspects (NONE without a pair), 2 SUM, 3 EXPLAINED, 4 "
                + "MISSED, 5 WRONG (0 each without one)";
        s.test(pair, SuspectPromises::allOfThePair);
        s.test(pair, SuspectPromises::noPairWithoutSuspects);
        s.test(pair, SuspectPromises::noPairOfOneSuspect);
        s.test(pair, SuspectPromises::noPairIsLeftFromBefore);
        s.test("IndexOutOfBoundsException", SuspectPromises::noSuchWhatOfThePair);
        s.test("IllegalStateException: none are TOLD", SuspectPromises::noPairIsTold);

        s.section("Promise 14: join");
        String join = "The chip is joined to those before: how many suspects have the least sum";
        s.test(join, SuspectPromises::joinWithoutSuspects);
        s.test(join, SuspectPromises::joinOfOneAndOfAll);
        s.test(join, SuspectPromises::joinOnceMore);
        s.test("IllegalStateException: none are TOLD", SuspectPromises::joinWhenNoneAreTold);

        s.section("Promise 15: share");
        s.test("The share of a net", SuspectPromises::sharesOutliveAllButClear);
        s.test("The share of a net", SuspectPromises::theShareOfTheLastNet);
        s.test("IndexOutOfBoundsException", SuspectPromises::theShareOfNoNet);
    }

    private static void runOnNothing() {
        FailDiagnose x = new FailDiagnose();
        Checks.due("on nothing", x.run(), 0);
        x.input();
        Checks.due("on a net alone", x.run(), 0);
        x.patterns(1);
        Checks.due("on a net and a pattern", x.run(), 0);
        x.output(0);
        Checks.due("on an output without fails", x.run(), 0);
        x.fail(0, 1);
        Checks.due("on one fail", x.run(), 1);
    }

    private static void runOnAllThereMayBe() {
        FailDiagnose x = Chips.full();
        Checks.due("run", x.run(), 480);
        Checks.due("count", x.count(4), 480);
    }

    private static void runOnceMore() {
        FailDiagnose x = Chips.told();
        Checks.due("once more", x.run(), 3);
        Checks.due("and once more", x.run(), 3);
        Checks.due("count", x.count(4), 3);
        Checks.refused(INDEX, "there are no more", () -> x.suspect(3, 0));
    }

    private static void runForgetsTheLastOne() {
        FailDiagnose x = Chips.told();
        x.fail(0, 2);
        Checks.due("run", x.run(), 3);
        Checks.due("the first one's kind", x.suspect(0, 0), 1);
        Checks.due("the first one's net", x.suspect(0, 1), 0);
        x.fail(0, 0);
        Checks.due("run without fails", x.run(), 0);
        Checks.due("no pair", x.pair(0), NONE);
    }

    private static void suspectIs(FailDiagnose x, int k, int... want) {
        for (int what = 0; what < want.length; what++) {
            Checks.due("suspect(" + k + ", " + what + ")", x.suspect(k, what), want[what]);
        }
    }

    private static void pairIs(FailDiagnose x, int... want) {
        for (int what = 0; what < want.length; what++) {
            Checks.due("pair(" + what + ")", x.pair(what), want[what]);
        }
    }

    private static void allOfAStuckNet() {
        FailDiagnose x = Chips.andOfTwo();
        x.fail(0, 0b0011);
        x.run();
        suspectIs(x, 0, 1, 2, NONE, 1, 2, 0, 1);
        suspectIs(x, 1, 1, 0, NONE, 2, 1, 1, 0);
    }

    /** The pair is put as nets 1 and 0: these are its first and its second. */
    private static void allOfAJoinedPair() {
        FailDiagnose x = Chips.andOfTwo();
        x.near(1, 0);
        x.near(0, 1);
        x.fail(0, 0b0111);
        x.run();
        suspectIs(x, 0, 1, 2, NONE, 0, 3, 0, 0);
        suspectIs(x, 1, 3, 1, 0, 2, 2, 1, 0);
    }

    private static void theLastOf480() {
        FailDiagnose x = Chips.full();
        Checks.due("kind", x.suspect(479, 0), 1);
        Checks.due("second net", x.suspect(479, 2), NONE);
        Checks.refused(INDEX, "the one behind", () -> x.suspect(480, 0));
    }

    private static void noSuchWhatOfASuspect() {
        FailDiagnose x = Chips.told();
        for (int what : Checks.beside(7)) {
            Checks.refused(INDEX, "told, what " + what, () -> x.suspect(0, what));
        }
        Checks.due("the last what", x.suspect(0, 6), 0);
        x.patterns(4);
        for (int what : Checks.beside(7)) {
            Checks.refused(INDEX, "not told, what " + what, () -> x.suspect(0, what));
        }
    }

    private static void noSuspectsAreTold() {
        FailDiagnose x = Chips.andOfTwo();
        x.fail(0, 8);
        for (int what = 0; what <= 6; what++) {
            int of = what;
            Checks.refused(STATE, "before the first run, what " + what, () -> x.suspect(0, of));
        }
        x.run();
        Checks.due("told", x.suspect(0, 0), 0);
        x.clear();
        Checks.refused(STATE, "after clear", () -> x.suspect(0, 0));
    }

    private static void noSuchSuspect() {
        FailDiagnose x = Chips.told();
        for (int k : Checks.beside(3)) {
            for (int what = 0; what <= 6; what++) {
                int of = what;
                Checks.refused(INDEX, "suspect " + k, () -> x.suspect(k, of));
            }
        }
        Checks.due("the first", x.suspect(0, 1), 0);
        Checks.due("the last", x.suspect(2, 1), 2);
    }

    private static void noSuspectsAtAll() {
        FailDiagnose x = Chips.andOfTwo();
        x.run();
        Checks.refused(INDEX, "told, but there are none", () -> x.suspect(0, 0));
        Checks.refused(INDEX, "suspect -1", () -> x.suspect(-1, 0));
    }

    /** Nets 0 and 2 are one pattern each, net 1 is another net's suspect between them. */
    private static void allOfThePair() {
        FailDiagnose x = Chips.inputs(3);
        x.patterns(4);
        x.fail(x.output(0), 0b0111);
        x.fail(x.output(1), 0b0001);
        x.fail(x.output(2), 0b1111);
        Checks.due("run", x.run(), 3);
        suspectIs(x, 0, 1, 2);
        suspectIs(x, 1, 1, 0);
        pairIs(x, 0, 1, 3, 7, 1, 1);
        x.near(0, 2);
        x.pattern(0, 0b0011);
        x.pattern(2, 0b1100);
        x.fail(0, 0b1100);
        x.fail(2, 0b0011);
        x.fail(1, 0b0000);
        Checks.due("run", x.run(), 3);
        suspectIs(x, 0, 3, 0, 2, 0, 4, 0, 0);
        pairIs(x, 1, 2, 0, 4, 0, 0);
    }

    private static void noPairWithoutSuspects() {
        FailDiagnose x = Chips.andOfTwo();
        x.run();
        pairIs(x, NONE, NONE, 0, 0, 0, 0);
    }

    private static void noPairOfOneSuspect() {
        FailDiagnose x = Chips.inputs(2);
        x.patterns(2);
        x.fail(x.output(0), 1);
        Checks.due("run", x.run(), 1);
        Checks.due("it has a sum", x.suspect(0, 3), 1);
        pairIs(x, NONE, NONE, 0, 0, 0, 0);
    }

    private static void noPairIsLeftFromBefore() {
        FailDiagnose x = Chips.failingInputs(2);
        x.patterns(3);
        x.run();
        pairIs(x, 0, 1, 4, 2, 0, 4);
        x.fail(1, 0);
        x.run();
        pairIs(x, NONE, NONE, 0, 0, 0, 0);
    }

    private static void noSuchWhatOfThePair() {
        FailDiagnose x = Chips.told();
        for (int what : Checks.beside(6)) {
            Checks.refused(INDEX, "told, what " + what, () -> x.pair(what));
        }
        Checks.due("the last what", x.pair(5), 0);
        x.patterns(4);
        for (int what : Checks.beside(6)) {
            Checks.refused(INDEX, "not told, what " + what, () -> x.pair(what));
        }
    }

    private static void noPairIsTold() {
        FailDiagnose x = Chips.andOfTwo();
        x.fail(0, 8);
        for (int what = 0; what <= 5; what++) {
            int of = what;
            Checks.refused(STATE, "before the first run, what " + what, () -> x.pair(of));
        }
        x.run();
        Checks.due("told", x.pair(1), 1);
        x.clear();
        Checks.refused(STATE, "after clear", () -> x.pair(0));
    }

    private static void joinWithoutSuspects() {
        FailDiagnose x = Chips.andOfTwo();
        x.run();
        Checks.due("join", x.join(), 0);
        Checks.due("a chip all the same", x.count(8), 1);
        Checks.due("that gives nothing", x.share(0), 0);
    }

    private static void joinOfOneAndOfAll() {
        FailDiagnose x = Chips.failingInputs(32);
        x.run();
        Checks.due("all of them", x.join(), 32);
        x.patterns(2);
        x.fail(31, 3);
        x.run();
        Checks.due("the last net alone", x.join(), 1);
        Checks.due("its share", x.share(31), 2520);
        Checks.due("chips", x.count(8), 2);
    }

    private static void joinOnceMore() {
        FailDiagnose x = Chips.told();
        for (int k = 1; k <= 400; k++) {
            x.join();
        }
        Checks.due("chips", x.count(8), 400);
        Checks.due("shares", x.share(2), 400 * 840);
    }

    private static void joinWhenNoneAreTold() {
        FailDiagnose x = Chips.andOfTwo();
        Checks.refused(STATE, "before the first run", x::join);
        x.run();
        x.patterns(4);
        Checks.refused(STATE, "when no longer told", x::join);
        Checks.due("chips", x.count(8), 0);
        x.run();
        x.clear();
        Checks.refused(STATE, "after clear", x::join);
        Checks.due("chips after clear", x.count(8), 0);
    }

    private static void sharesOutliveAllButClear() {
        FailDiagnose x = Chips.told();
        x.join();
        x.fail(0, 0);
        x.input();
        x.run();
        Checks.due("another chip", x.share(0), 840);
        Checks.due("a net put since", x.share(3), 0);
        x.clear();
        Chips.addInputs(x, 4);
        for (int net = 0; net < 4; net++) {
            Checks.due("after clear", x.share(net), 0);
        }
        Checks.due("chips", x.count(8), 0);
    }

    private static void theShareOfTheLastNet() {
        FailDiagnose x = Chips.nots(200);
        x.patterns(2);
        x.pattern(0, 1);
        x.fail(x.output(199), 1);
        x.output(198);
        x.run();
        Checks.due("the last net alone shows no more", x.join(), 1);
        Checks.due("its share", x.share(199), 2520);
        Checks.refused(INDEX, "the net behind it", () -> x.share(200));
    }

    private static void theShareOfNoNet() {
        FailDiagnose x = new FailDiagnose();
        Checks.refused(INDEX, "no nets yet", () -> x.share(0));
        x.input();
        for (int net : Checks.beside(1)) {
            Checks.refused(INDEX, "share " + net, () -> x.share(net));
        }
        Checks.due("the only net", x.share(0), 0);
    }
}
