import java.util.function.LongSupplier;

/** Each promise of the document by hand: ordinary inputs, the edges it names, and wrong inputs. */
public final class PromisesTest {
    private static final Class<?> INDEX = IndexOutOfBoundsException.class;
    private static final Class<?> STATE = IllegalStateException.class;
    private static final Class<?> ARGUMENT = IllegalArgumentException.class;

    private static String promise = "";
    private static int wrong = 0;

    private static void due(String call, long got, long want) {
        if (got != want) {
            wrong++;
            System.out.println(promise + ": " + call + " answered " + got + ", due is " + want);
        }
    }

    private static void refused(String call, Class<?> want, LongSupplier made) {
        String got;
        try {
            got = "answered " + made.getAsLong();
        } catch (RuntimeException e) {
            if (e.getClass() == want) {
                return;
            }
            got = "threw " + e.getClass().getSimpleName();
        }
        wrong++;
        System.out.println(promise + ": " + call + " " + got + ", due is " + want.getSimpleName());
    }

    private static void counts(FailDiagnose x, String when, int... want) {
        for (int what = 0; what < want.length; what++) {
            due(when + " count(" + what + ")", x.count(what), want[what]);
        }
    }

    private static FailDiagnose withInputs(int n) {
        FailDiagnose x = new FailDiagnose();
        for (int k = 0; k < n; k++) {
            x.input();
        }
        return x;
    }

    /** Two inputs with all four patterns (rows 12 and 10), their AND as net 2, which is output 0. */
    private static FailDiagnose andOfTwo() {
        FailDiagnose x = withInputs(2);
        x.gate(0, 0, 1);
        x.output(2);
        x.patterns(4);
        x.pattern(0, 12);
        x.pattern(1, 10);
        return x;
    }

    private static void isLikeNew(FailDiagnose x) {
        counts(x, "like new", 0, 0, 0, 0, 0, 0, 0, 0, 0);
        refused("row(0)", INDEX, () -> x.row(0));
        refused("share(0)", INDEX, () -> x.share(0));
        refused("area(0, 0)", INDEX, () -> x.area(0, 0));
        refused("pattern(0, 1)", INDEX, () -> x.pattern(0, 1));
        refused("fail(0, 1)", INDEX, () -> x.fail(0, 1));
        refused("shows(0, 0, 0)", INDEX, () -> x.shows(0, 0, 0));
        refused("suspect(0, 0)", STATE, () -> x.suspect(0, 0));
        refused("pair(0)", STATE, () -> x.pair(0));
        refused("join()", STATE, x::join);
        refused("caught(0, 0)", STATE, () -> x.caught(0, 0));
        refused("span(0, 0)", STATE, () -> x.span(0, 0));
    }

    private static void promise1() {
        isLikeNew(new FailDiagnose());
        due("NONE", FailDiagnose.NONE, -1);
        FailDiagnose x = new FailDiagnose();
        due("run() on nothing", x.run(), 0);
        for (int what = 0; what < 6; what++) {
            due("pair on nothing", x.pair(what), what < 2 ? -1 : 0);
        }
        due("join() on nothing", x.join(), 0);
    }

    private static void promise2() {
        FailDiagnose x = new FailDiagnose();
        for (int k = 0; k < 32; k++) {
            due("input()", x.input(), k);
            due("row of a new input", x.row(k), 0);
        }
        refused("the 33rd input()", STATE, x::input);
        due("gates still come", x.gate(6, 0, 0), 32);
        refused("input() behind a gate", STATE, x::input);
        counts(x, "after 32 inputs", 33, 32);

        FailDiagnose y = withInputs(1);
        for (int k = 1; k < 199; k++) {
            y.gate(5, k - 1, 0);
        }
        due("the 200th net", y.input(), 199);
        refused("the 201st net", STATE, y::input);
        counts(y, "after 200 nets", 200, 2);
    }

    private static void promise3() {
        long[] want = {8, 14, 6, 7, 1, 3, 12};
        FailDiagnose x = withInputs(2);
        x.patterns(4);
        x.pattern(0, 12);
        x.pattern(1, 10);
        for (int kind = 0; kind < 7; kind++) {
            due("gate of kind " + kind, x.gate(kind, 0, 1), 2 + kind);
            due("row of kind " + kind, x.row(2 + kind), want[kind]);
        }
        due("gate of one net twice", x.gate(2, 1, 1), 9);
        due("its row", x.row(9), 0);
        due("NOT does not ask for b", x.gate(5, 1, 1000), 10);
        due("SAME does not ask for b", x.gate(6, 1, -7), 11);
        refused("gate of itself", INDEX, () -> x.gate(0, 12, 0));
        refused("gate of itself as b", INDEX, () -> x.gate(0, 0, 12));
        refused("NOT of no net", INDEX, () -> x.gate(5, 12, 0));
        refused("SAME of no net", INDEX, () -> x.gate(6, -1, 0));
        refused("kind 7", ARGUMENT, () -> x.gate(7, 0, 0));
        refused("kind -1", ARGUMENT, () -> x.gate(-1, 0, 0));
        refused("kind 7 asks for b", INDEX, () -> x.gate(7, 0, 12));
        refused("kind -1 of no net", INDEX, () -> x.gate(-1, -1, 0));
        counts(x, "after gates", 12, 2);
        for (int k = 12; k < 200; k++) {
            due("gate", x.gate(1, k - 1, k - 2), k);
        }
        refused("the 201st net", STATE, () -> x.gate(0, 0, 1));
        refused("the state before the kind", STATE, () -> x.gate(7, 0, 1));
        refused("the net before the state", INDEX, () -> x.gate(0, 200, 1));
        due("nets", x.count(0), 200);
    }

    private static void promise4() {
        FailDiagnose x = withInputs(2);
        refused("output(2)", INDEX, () -> x.output(2));
        refused("output(-1)", INDEX, () -> x.output(-1));
        for (int k = 0; k < 32; k++) {
            due("output", x.output(k % 2), k);
            due("fails of a new output", x.fail(k, k), 0);
        }
        refused("the 33rd output", STATE, () -> x.output(0));
        refused("the net before the state", INDEX, () -> x.output(2));
        due("outputs", x.count(2), 32);
        x.patterns(1);
        due("the same net shows at each of its outputs", x.shows(1, 1, 1) + x.shows(1, 1, 3), 2);
        due("and not at others", x.shows(1, 1, 0), 0);
        x.clear();
        x.input();
        x.output(0);
        due("fails do not outlive clear", x.fail(0, 1), 0);
    }

    private static void promise5() {
        FailDiagnose x = withInputs(1);
        x.gate(5, 0, 0);
        due("patterns(3)", x.patterns(3), 0);
        due("patterns(64)", x.patterns(64), 3);
        due("patterns(0)", x.patterns(0), 64);
        due("patterns(0) again", x.patterns(0), 0);
        refused("patterns(65)", ARGUMENT, () -> x.patterns(65));
        refused("patterns(-1)", ARGUMENT, () -> x.patterns(-1));
        due("refused calls change nothing", x.count(6), 0);
        for (int n = 0; n <= 64; n++) {
            x.patterns(n);
            due("bits of " + n + " patterns", Long.bitCount(x.row(1)), n);
            due("the lowest ones of " + n, x.row(1) + 1, n == 64 ? 0 : 1L << n);
        }
    }

    private static void promise6() {
        FailDiagnose x = withInputs(2);
        x.gate(6, 0, 0);
        x.patterns(2);
        due("pattern(0, -1)", x.pattern(0, -1), 0);
        due("as it was put", x.pattern(0, 0x7000000000000005L), -1);
        due("only two bits count", x.row(2), 1);
        x.patterns(64);
        due("the others were kept", x.row(2), 0x7000000000000005L);
        due("as it was put", x.pattern(0, 0), 0x7000000000000005L);
        due("the other input", x.pattern(1, 1), 0);
        refused("pattern of a gate's net", INDEX, () -> x.pattern(2, 1));
        refused("pattern of no net", INDEX, () -> x.pattern(3, 1));
        refused("pattern of -1", INDEX, () -> x.pattern(-1, 1));
        x.clear();
        x.input();
        due("rows do not outlive clear", x.pattern(0, 1), 0);
    }

    private static void promise7() {
        FailDiagnose x = withInputs(1);
        int not = x.gate(5, 0, 0);
        int late = x.input();
        int gate = x.gate(0, not, late);
        int last = x.gate(3, gate, 0);
        x.patterns(3);
        x.pattern(0, 1);
        x.pattern(late, 3);
        due("row of an input", x.row(late), 3);
        due("row of NOT", x.row(not), 6);
        due("row of AND", x.row(gate), 2);
        due("row of NOT AND", x.row(last), 7);
        x.output(last);
        x.shows(1, gate, 0);
        x.run();
        due("faults do not stay", x.row(gate), 2);
        x.pattern(0, 6);
        due("rows follow the patterns", x.row(gate), 1);
        refused("row(5)", INDEX, () -> x.row(5));
        refused("row(-1)", INDEX, () -> x.row(-1));
    }

    private static void promise8() {
        FailDiagnose x = andOfTwo();
        due("fail(0, -2)", x.fail(0, -2), 0);
        due("as they were put", x.fail(0, -8), -2);
        x.run();
        due("only four patterns' fails count", x.suspect(0, 4) + x.suspect(0, 5), 1);
        refused("fail(1, 0)", INDEX, () -> x.fail(1, 0));
        refused("fail(-1, 0)", INDEX, () -> x.fail(-1, 0));
        due("refused calls leave them told", x.count(4), 3);
        due("as they were put", x.fail(0, 0), -8);
        due("put, so no longer told", x.count(4), 0);
    }

    private static void promise9() {
        FailDiagnose x = withInputs(4);
        int and = x.gate(0, 0, 1);
        int not = x.gate(5, and, 3);
        int same = x.gate(6, not, 2);
        due("near(1, 0)", x.near(1, 0), 0);
        due("near(0, 1)", x.near(0, 1), 0);
        due("near(2, and)", x.near(2, and), 1);
        due("b of a NOT is not taken", x.near(3, not), 2);
        due("b of a SAME is not taken", x.near(same, 2), 3);
        due("such a one", x.near(2, same), 3);
        due("near pairs", x.count(3), 4);
        refused("near itself", ARGUMENT, () -> x.near(2, 2));
        refused("reached by a", ARGUMENT, () -> x.near(0, and));
        refused("reached by b", ARGUMENT, () -> x.near(and, 1));
        refused("reached far off", ARGUMENT, () -> x.near(1, same));
        refused("reached far off, other way", ARGUMENT, () -> x.near(same, 0));
        refused("no such a", INDEX, () -> x.near(7, 0));
        refused("no such b", INDEX, () -> x.near(0, -1));
        due("near pairs still", x.count(3), 4);

        FailDiagnose y = withInputs(10);
        int pairs = 0;
        for (int a = 0; a < 10 && pairs < 40; a++) {
            for (int b = a + 1; b < 10 && pairs < 40; b++) {
                due("near", y.near(a, b), pairs);
                pairs++;
            }
        }
        refused("the 41st pair", STATE, () -> y.near(8, 9));
        refused("the state before the argument", STATE, () -> y.near(3, 3));
        refused("the net before the state", INDEX, () -> y.near(3, 10));
        due("near pairs", y.count(3), 40);
        due("shows of the last pair has no output", y.count(2), 0);
        y.output(0);
        due("the last pair is there", y.shows(2, 39, 0), 0);
        refused("no pair behind it", INDEX, () -> y.shows(2, 40, 0));
    }

    private static void promise10() {
        FailDiagnose x = andOfTwo();
        x.output(0);
        x.near(1, 0);
        due("input 0 stuck at 0", x.shows(0, 0, 0), 8);
        due("input 0 stuck at 1", x.shows(1, 0, 0), 2);
        due("at the input itself", x.shows(1, 0, 1), 3);
        due("input 1 does not reach it", x.shows(1, 1, 1), 0);
        due("a gate stuck at 1", x.shows(1, 2, 0), 7);
        due("a gate stuck at 0", x.shows(0, 2, 0), 8);
        due("AND of both at the AND", x.shows(2, 0, 0), 0);
        due("AND of both at an input", x.shows(2, 0, 1), 4);
        due("OR of both at the AND", x.shows(3, 0, 0), 6);
        due("OR of both at an input", x.shows(3, 0, 1), 2);
        refused("kind 4", INDEX, () -> x.shows(4, 0, 0));
        refused("kind -1", INDEX, () -> x.shows(-1, 0, 0));
        refused("no such net", INDEX, () -> x.shows(0, 3, 0));
        refused("no such net", INDEX, () -> x.shows(1, -1, 0));
        refused("no such pair", INDEX, () -> x.shows(2, 1, 0));
        refused("no such pair", INDEX, () -> x.shows(3, -1, 0));
        refused("no such output", INDEX, () -> x.shows(0, 0, 2));
        refused("no such output", INDEX, () -> x.shows(0, 0, -1));
        x.run();
        x.shows(1, 0, 0);
        due("shows leaves suspects told", x.pair(0), -1);
        x.patterns(2);
        due("only patterns count", x.shows(1, 2, 0), 3);
        x.patterns(0);
        due("none count", x.shows(1, 2, 0), 0);
    }

    private static void promise11() {
        FailDiagnose x = andOfTwo();
        due("run() without fails", x.run(), 0);
        x.fail(0, 8);
        due("run() of one fail", x.run(), 3);
        due("run() once more", x.run(), 3);
        x.near(0, 1);
        x.fail(0, 2);
        due("run() with a pair", x.run(), 3);
        x.patterns(1);
        due("the fail is no pattern now", x.run(), 0);

        String[] puts = {"input", "gate", "output", "patterns", "pattern", "fail", "near"};
        for (int k = 0; k < puts.length; k++) {
            FailDiagnose y = andOfTwo();
            y.near(0, 1);
            y.fail(0, 8);
            y.run();
            due("told", y.count(4), 3);
            put(y, k);
            due("suspects after " + puts[k], y.count(4), 0);
            refused("suspect after " + puts[k], STATE, () -> y.suspect(0, 0));
            refused("pair after " + puts[k], STATE, () -> y.pair(0));
            refused("join after " + puts[k], STATE, y::join);
        }
        allThatThereMayBe();
    }

    /** As many of everything as there may be: columns of NOTs below 32 inputs, all of whose ends are wrong. */
    private static void allThatThereMayBe() {
        FailDiagnose x = withInputs(32);
        for (int net = 32; net < 200; net++) {
            x.gate(5, net - 32, 0);
        }
        x.patterns(64);
        for (int k = 0; k < 32; k++) {
            x.pattern(k, k % 2 == 0 ? 0x5555555555555555L : 0xaaaaaaaaaaaaaaaaL);
            x.fail(x.output(168 + k), -1);
        }
        for (int k = 0; k < 40; k++) {
            x.near(2 * (k % 8), 2 * (k / 8) + 1);
        }
        due("run() of all", x.run(), 480);
        int[] at = {0, 39, 40, 80, 279, 280, 479};
        int[][] want = {
            {2, 0, 1, 3968, 64, 1984, 0}, {2, 14, 9, 3968, 64, 1984, 0}, {3, 0, 1, 3968, 64, 1984, 0},
            {0, 0, -1, 4032, 32, 2016, 0}, {0, 199, -1, 4032, 32, 2016, 0},
            {1, 0, -1, 4032, 32, 2016, 0}, {1, 199, -1, 4032, 32, 2016, 0},
        };
        for (int k = 0; k < at.length; k++) {
            for (int what = 0; what < 7; what++) {
                due("suspect(" + at[k] + ", " + what + ")", x.suspect(at[k], what), want[k][what]);
            }
        }
        due("the best pair", x.pair(0) * 1000 + x.pair(1), 80081);
        due("its sum", x.pair(2), 3968);
        due("join()", x.join(), 80);
        due("too many to give", x.share(0), 0);
        due("row of the last net", x.row(199), 0xaaaaaaaaaaaaaaaaL);
    }

    /** Puts something, where it can be by changing nothing. */
    private static void put(FailDiagnose x, int k) {
        switch (k) {
            case 0 -> x.input();
            case 1 -> x.gate(0, 0, 0);
            case 2 -> x.output(0);
            case 3 -> x.patterns(4);
            case 4 -> x.pattern(0, 12);
            case 5 -> x.fail(0, 8);
            default -> x.near(1, 0);
        }
    }

    private static void leavesTold(FailDiagnose x) {
        refused("gate", INDEX, () -> x.gate(0, 9, 9));
        refused("gate", ARGUMENT, () -> x.gate(9, 0, 0));
        refused("output", INDEX, () -> x.output(9));
        refused("patterns", ARGUMENT, () -> x.patterns(99));
        refused("pattern", INDEX, () -> x.pattern(2, 0));
        refused("fail", INDEX, () -> x.fail(9, 0));
        refused("near", INDEX, () -> x.near(9, 0));
        refused("near", ARGUMENT, () -> x.near(0, 0));
        x.row(0);
        x.shape(0, 0, 0, 1, 1);
        x.area(0, 0);
        x.common(0, 1, 0);
        x.chain(1);
        x.caught(0, 0);
        x.span(0, 0);
        x.share(0);
        x.join();
    }

    private static void promise12() {
        FailDiagnose x = andOfTwo();
        x.near(1, 0);
        x.output(0);
        refused("no such what before told", INDEX, () -> x.suspect(0, 7));
        refused("no such what before told", INDEX, () -> x.suspect(0, -1));
        refused("not told before no such suspect", STATE, () -> x.suspect(99, 0));
        x.fail(0, 2);
        x.fail(1, 8);
        due("run()", x.run(), 4);
        int[][] want = {
            {0, 0, -1, 4, 1, 1, 2},
            {1, 0, -1, 4, 1, 1, 2},
            {1, 2, -1, 4, 1, 1, 2},
            {3, 1, 0, 4, 1, 1, 2},
        };
        for (int k = 0; k < 4; k++) {
            for (int what = 0; what < 7; what++) {
                due("suspect(" + k + ", " + what + ")", x.suspect(k, what), want[k][what]);
            }
        }
        refused("no such suspect", INDEX, () -> x.suspect(4, 0));
        refused("no such suspect", INDEX, () -> x.suspect(-1, 0));
        refused("no such what", INDEX, () -> x.suspect(0, 7));
        leavesTold(x);
        due("still told", x.suspect(3, 1), 1);
    }

    private static void promise13() {
        FailDiagnose x = new FailDiagnose();
        refused("no such what before told", INDEX, () -> x.pair(6));
        refused("no such what before told", INDEX, () -> x.pair(-1));
        refused("not told", STATE, () -> x.pair(5));
        for (int k = 0; k < 2; k++) {
            x.input();
            x.output(k);
        }
        x.patterns(2);
        x.fail(0, 1);
        x.run();
        due("one net has no pair", x.pair(0), -1);
        due("one net has no pair", x.pair(1), -1);
        for (int what = 2; what < 6; what++) {
            due("nor sums", x.pair(what), 0);
        }
        x.pattern(0, 2);
        x.fail(0, 3);
        due("both of net 0", x.run(), 2);
        due("are of one net", x.pair(0), -1);
        x.fail(1, 3);
        due("net 1 stuck at 1 comes first", x.run(), 3);
        due("its net", x.suspect(0, 1), 1);
        int[] want = {0, 1, 2, 3, 1, 0};
        for (int what = 0; what < 6; what++) {
            due("pair(" + what + ")", x.pair(what), want[what]);
        }
        refused("no such what", INDEX, () -> x.pair(6));
        firstTwelveAlone();
        bothAtOnce();
    }

    /**
     * Nets 0 and 1 together are the best pair, because only both at once show at their AND; but net 1 is the
     * last one of the stuck suspects. A joined pair stands before it, which is not counted among the twelve.
     */
    private static void firstTwelveAlone() {
        for (int others = 9; others <= 10; others++) {
            FailDiagnose x = withInputs(3 + others);
            int and = x.gate(0, 0, 1);
            x.patterns(2);
            x.pattern(2, 3);
            x.near(0, 2);
            x.fail(x.output(0), 3);
            x.fail(x.output(1), 1);
            x.fail(x.output(and), 3);
            for (int k = 0; k < others; k++) {
                x.pattern(3 + k, 2);
                x.fail(x.output(3 + k), 1);
            }
            due("run()", x.run(), others + 4);
            due("a joined pair", x.suspect(2, 0), 3);
            due("the last one", x.suspect(others + 3, 1), 1);
            due("first of the best pair", x.pair(0), 0);
            due("second of the best pair of " + others, x.pair(1), others == 9 ? 12 : 1);
            due("its sum", x.pair(2), 2 * (5 + others) - (others == 9 ? 2 * 5 - 1 : 2 * 4));
            due("its wrong ones", x.pair(5), others == 9 ? 1 : 0);
        }
    }

    /** Both inputs of an XOR stuck at 1 show nothing together where each one alone shows something. */
    private static void bothAtOnce() {
        FailDiagnose x = withInputs(2);
        x.gate(2, 0, 1);
        x.output(2);
        x.patterns(1);
        x.fail(0, 1);
        due("run()", x.run(), 3);
        due("the inputs hide one another", x.pair(0), 0);
        due("the second one is the gate", x.pair(1), 2);
        due("the sum", x.pair(2), 0);
        x.patterns(2);
        x.pattern(0, 2);
        x.fail(0, 3);
        due("run()", x.run(), 5);
        due("net 1 alone shows both", x.suspect(0, 3), 0);
        due("with another one it shows less", x.pair(2), 2);
        due("the first such pair", x.pair(0) * 10 + x.pair(1), 1);
    }

    private static void promise14() {
        FailDiagnose x = andOfTwo();
        refused("join() before run()", STATE, x::join);
        due("chips", x.count(8), 0);
        x.fail(0, 8);
        x.run();
        due("join()", x.join(), 3);
        due("join() again", x.join(), 3);
        due("chips", x.count(8), 2);
        x.fail(0, 2);
        refused("join() when no longer told", STATE, x::join);
        x.run();
        due("the least sum alone", x.join(), 1);
        x.fail(0, 0);
        x.run();
        due("no suspects", x.join(), 0);
        due("chips", x.count(8), 4);
        due("shares of all", x.share(0), 840 * 2 + 2520);
        due("shares of all", x.share(1), 840 * 2);
        for (int n = 9; n <= 12; n++) {
            FailDiagnose y = withInputs(n);
            y.patterns(1);
            for (int k = 0; k < n; k++) {
                y.output(k);
                y.fail(k, 1);
            }
            y.run();
            due(n + " of the least sum", y.join(), n);
            due("a chip is counted", y.count(8), 1);
            due("share of one of " + n, y.share(n - 1), n <= 10 ? 2520 / n : 0);
        }
    }

    private static void promise15() {
        FailDiagnose x = withInputs(2);
        refused("share(2)", INDEX, () -> x.share(2));
        refused("share(-1)", INDEX, () -> x.share(-1));
        x.output(0);
        x.patterns(1);
        x.pattern(1, 1);
        x.near(0, 1);
        x.fail(0, 1);
        due("stuck or joined", x.run(), 2);
        due("share before join()", x.share(0), 0);
        x.join();
        due("share of both suspects", x.share(0), 2520);
        due("share of the joined one", x.share(1), 1260);
        x.patterns(2);
        x.fail(0, 3);
        x.pattern(0, 2);
        x.run();
        due("stuck at 0 and 1, and joined by AND and OR", x.join(), 4);
        due("share of net 0", x.share(0), 2520 + 4 * 630);
        due("share of net 1", x.share(1), 1260 + 2 * 630);
        due("share of a new net", x.share(x.input()), 0);
    }

    private static void promise16() {
        FailDiagnose x = new FailDiagnose();
        refused("chain(0)", ARGUMENT, () -> began(x, 0));
        refused("chain(65)", ARGUMENT, () -> began(x, 65));
        refused("chain(-1)", ARGUMENT, () -> began(x, -1));
        refused("no chain yet", STATE, () -> x.caught(0, 0));
        x.chain(1);
        due("greatest of 1", x.span(0, 1), 0);
        x.caught(1, 1);
        due("rows", x.count(7), 1);
        refused("chain(0)", ARGUMENT, () -> began(x, 0));
        due("rows stay", x.count(7), 1);
        due("so does the chain", x.span(0, 1), -1);
        x.chain(64);
        due("rows of a new chain", x.count(7), 0);
        due("greatest of 64", x.span(0, 1), 63);
    }

    private static long began(FailDiagnose x, int n) {
        x.chain(n);
        return 0;
    }

    private static void promise17() {
        FailDiagnose x = new FailDiagnose();
        refused("caught without a chain", STATE, () -> x.caught(0, 0));
        x.chain(2);
        for (int k = 1; k <= 30; k++) {
            due("caught", x.caught(3, 2), k);
        }
        refused("the 31st row", STATE, () -> x.caught(3, 3));
        due("rows", x.count(7), 30);
        due("it changed nothing", x.span(0, 1), 0);
        x.chain(2);
        due("a new chain", x.caught(0, 0), 1);
    }

    private static void promise18() {
        FailDiagnose x = new FailDiagnose();
        refused("v before no chain", INDEX, () -> x.span(2, 0));
        refused("end before no chain", INDEX, () -> x.span(0, -1));
        refused("no chain", STATE, () -> x.span(1, 1));
        x.chain(4);
        due("least without rows", x.span(1, 0), 0);
        due("greatest without rows", x.span(1, 1), 3);
        x.caught(0b0101, 0b0111);
        due("least at 1", x.span(1, 0), 1);
        due("greatest at 1", x.span(1, 1), 2);
        due("least at 0", x.span(0, 0), -1);
        due("greatest at 0", x.span(0, 1), -1);
        x.caught(0b11110000, 0b0111);
        due("bits behind the cells do not count", x.span(1, 0), 2);
        due("bits behind the cells do not count", x.span(1, 1), 2);
        x.caught(0b1000, 0b1111);
        due("the last cell is as it should", x.span(1, 1), 2);
        x.caught(0b1000, 0b0111);
        due("no cell", x.span(1, 1), -1);
        due("no cell", x.span(1, 0), -1);
        refused("v", INDEX, () -> x.span(-1, 0));
        refused("end", INDEX, () -> x.span(0, 2));
        x.chain(64);
        x.caught(-1L, Long.MIN_VALUE);
        due("cells 0 to 62 came as 0", x.span(0, 0), 62);
        due("cells 0 to 62 came as 0", x.span(0, 1), 62);
        x.caught(-1L, 0);
        due("all came as 0", x.span(0, 1), -1);
        x.chain(64);
        x.caught(1, 0);
        due("least of 64", x.span(0, 0), 0);
        due("greatest of 64", x.span(0, 1), 63);
    }

    private static void promise19() {
        FailDiagnose x = withInputs(2);
        due("shape", x.shape(0, 0, 0, 1000, 1000), 1);
        due("shape of another net", x.shape(1, 999, 999, 1000, 1000), 1);
        due("the same once more", x.shape(0, 0, 0, 1000, 1000), 2);
        int[][] no = {
            {-1, 0, 5, 5}, {0, -1, 5, 5}, {0, 0, 1001, 5}, {0, 0, 5, 1001}, {1001, 0, 1002, 5}, {0, 1001, 5, 1002},
            {5, 0, 5, 5}, {0, 5, 5, 5}, {6, 0, 5, 5}, {0, 6, 5, 5}, {-2, 0, -1, 5}, {0, -2, 5, -1},
            {Integer.MIN_VALUE, 0, Integer.MAX_VALUE, 5},
        };
        for (int[] c : no) {
            refused("shape " + c[0] + " " + c[1] + " " + c[2] + " " + c[3], ARGUMENT,
                    () -> x.shape(0, c[0], c[1], c[2], c[3]));
        }
        refused("the net first", INDEX, () -> x.shape(2, 5, 5, 5, 5));
        refused("the net first", INDEX, () -> x.shape(-1, 0, 0, 5, 5));
        due("shapes", x.count(5), 3);
        for (int k = 3; k < 60; k++) {
            due("shape", x.shape(1, k, k, k + 1, k + 1), k - 1);
        }
        refused("the 61st", STATE, () -> x.shape(0, 0, 0, 1, 1));
        refused("the state before the argument", STATE, () -> x.shape(0, 1, 1, 1, 1));
        refused("the net before the state", INDEX, () -> x.shape(2, 0, 0, 1, 1));
        due("shapes", x.count(5), 60);
    }

    private static void promise20() {
        FailDiagnose x = withInputs(3);
        due("no shapes", x.area(0, 0), 0);
        due("no shapes, grown", x.area(0, 100), 0);
        x.shape(0, 0, 0, 10, 20);
        due("one", x.area(0, 0), 200);
        due("grown beyond 0", x.area(0, 1), 12 * 22);
        x.shape(0, 10, 0, 20, 20);
        due("two that touch", x.area(0, 0), 400);
        due("two that overlap when grown", x.area(0, 5), 30 * 30);
        x.shape(0, 2, 2, 4, 4);
        due("one inside", x.area(0, 0), 400);
        x.shape(0, 25, 25, 26, 26);
        due("one apart", x.area(0, 0), 401);
        due("corners that overlap when grown", x.area(0, 3), 26 * 26 + 49 - 1);
        x.shape(1, 0, 0, 1000, 1000);
        due("the whole", x.area(1, 0), 1000000);
        due("the whole grown", x.area(1, 100), 1440000);
        due("others do not count", x.area(2, 100), 0);
        FailDiagnose y = withInputs(1);
        for (int k = 0; k < 60; k++) {
            y.shape(0, 10 * k, 10 * (59 - k), 10 * k + 11, 10 * (59 - k) + 11);
        }
        due("sixty", y.area(0, 0), 60 * 121 - 59);
        due("sixty, once more", y.common(0, 0, 0), 60 * 121 - 59);
        refused("g = 101", ARGUMENT, () -> x.area(0, 101));
        refused("g = -1", ARGUMENT, () -> x.area(0, -1));
        refused("the net first", INDEX, () -> x.area(3, 101));
        refused("no such net", INDEX, () -> x.area(-1, 0));
    }

    private static void promise21() {
        FailDiagnose x = withInputs(3);
        x.shape(0, 0, 0, 10, 10);
        x.shape(0, 5, 5, 15, 15);
        x.shape(1, 12, 0, 20, 30);
        x.shape(1, 0, 12, 20, 30);
        due("common", x.common(0, 1, 0), 3 * 10 + 10 * 3 - 9);
        due("common, other way", x.common(1, 0, 0), 3 * 10 + 10 * 3 - 9);
        due("one and the same", x.common(0, 0, 0), x.area(0, 0));
        due("one and the same, grown", x.common(1, 1, 9), x.area(1, 9));
        due("with one without shapes", x.common(0, 2, 100), 0);
        x.shape(2, 100, 0, 110, 10);
        due("far apart", x.common(2, 1, 39), 0);
        due("touching when grown", x.common(2, 1, 40), 0);
        due("overlapping when grown", x.common(2, 1, 41), 2 * 92);
        refused("g = 101", ARGUMENT, () -> x.common(0, 1, 101));
        refused("g = -1", ARGUMENT, () -> x.common(0, 1, -1));
        refused("the net first", INDEX, () -> x.common(3, 0, 101));
        refused("the second net, too", INDEX, () -> x.common(0, 3, -1));
        refused("no such net", INDEX, () -> x.common(-1, 0, 0));
    }

    private static FailDiagnose full() {
        FailDiagnose x = andOfTwo();
        x.near(0, 1);
        x.fail(0, 8);
        x.run();
        x.join();
        x.chain(3);
        x.caught(7, 7);
        x.caught(7, 7);
        x.shape(0, 0, 0, 1, 1);
        x.shape(1, 0, 0, 1, 1);
        x.shape(2, 0, 0, 1, 1);
        return x;
    }

    private static void promise22() {
        FailDiagnose x = full();
        counts(x, "full", 3, 2, 1, 1, 3, 3, 4, 2, 1);
        refused("count(9)", INDEX, () -> x.count(9));
        refused("count(-1)", INDEX, () -> x.count(-1));
        x.patterns(4);
        due("none are told", x.count(4), 0);
    }

    private static void promise23() {
        FailDiagnose x = full();
        x.clear();
        isLikeNew(x);
        due("input()", x.input(), 0);
        due("input()", x.input(), 1);
        due("share", x.share(0), 0);
        due("area", x.area(0, 100), 0);
        due("row as put", x.pattern(0, 0), 0);
        due("patterns", x.patterns(4), 0);
        due("near", x.near(1, 0), 0);
        due("output", x.output(1), 0);
        due("fails", x.fail(0, 0), 0);
        due("run", x.run(), 0);
        x.chain(3);
        due("span", x.span(0, 0), 0);
        x.clear();
        x.clear();
        isLikeNew(x);
    }

    public static void main(String[] args) {
        Runnable[] promises = {
            PromisesTest::promise1, PromisesTest::promise2, PromisesTest::promise3, PromisesTest::promise4,
            PromisesTest::promise5, PromisesTest::promise6, PromisesTest::promise7, PromisesTest::promise8,
            PromisesTest::promise9, PromisesTest::promise10, PromisesTest::promise11, PromisesTest::promise12,
            PromisesTest::promise13, PromisesTest::promise14, PromisesTest::promise15, PromisesTest::promise16,
            PromisesTest::promise17, PromisesTest::promise18, PromisesTest::promise19, PromisesTest::promise20,
            PromisesTest::promise21, PromisesTest::promise22, PromisesTest::promise23,
        };
        for (int k = 0; k < promises.length; k++) {
            promise = "promise " + (k + 1);
            try {
                promises[k].run();
            } catch (RuntimeException e) {
                wrong++;
                System.out.println(promise + ": ended by " + e + " at " + e.getStackTrace()[0]);
            }
        }
        if (wrong != 0) {
            System.out.println(wrong + " answers are not as due");
            System.exit(1);
        }
    }
}
