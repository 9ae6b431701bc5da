import java.util.function.LongSupplier;

/** What the document says before its terms. */
final class WhatItIs {
    private static final int MOST_CALLS = 512;

    private WhatItIs() {
    }

    static void tests(Sentences s) {
        s.section("What it is");
        s.test("Why a chip fails: nets and gates, patterns in rows of 64, the outputs that were wrong",
                WhatItIs::aGateInAllSixtyFourPatterns);
        String suspects = "suspects by what each one would show, put in order by whole sums, and in pairs";
        s.test(suspects, WhatItIs::suspectsAreWhatTheyShow);
        s.test("cells of a shift chain that may be stuck", WhatItIs::eachStuckCellIsInItsSpan);
        s.test("shares of nets over many chips", WhatItIs::sharesOfAHundredChips);
        s.test("areas of shapes, exactly", WhatItIs::areasSquareBySquare);
        String nets = "NETS have numbers 0, 1, .. as they come (200 at most): an INPUT (32 at most), or a GATE's of "
                + "nets before it, of a KIND";
        s.test(nets, WhatItIs::numbersAsTheyCome);
        s.test(nets, WhatItIs::gatesOfNetsBeforeThem);
        s.test("An object is used for at most 512 calls after it has been made", WhatItIs::theLastCall);
        s.test("what later calls answer is free", WhatItIs::laterCalls);
    }

    /** Input k is bit k of the pattern's number, so that every pattern is another one. */
    private static FailDiagnose sixInputsInAllPatterns() {
        FailDiagnose x = Chips.inputs(6);
        x.patterns(64);
        for (int k = 0; k < 6; k++) {
            long row = 0;
            for (int pattern = 0; pattern < 64; pattern++) {
                row |= (long) (pattern >> k & 1) << pattern;
            }
            x.pattern(k, row);
        }
        return x;
    }

    private static void aGateInAllSixtyFourPatterns() {
        FailDiagnose x = sixInputsInAllPatterns();
        int and = 0;
        int or = 0;
        for (int k = 1; k < 6; k++) {
            and = x.gate(0, and, k);
            or = x.gate(1, or, k);
        }
        Checks.due("the AND is 1 in the last pattern", x.row(and), 1L << 63);
        Checks.due("the OR is 0 in the first pattern", x.row(or), -2);
        x.fail(x.output(and), 1L << 62);
        x.fail(x.output(or), 0);
        Checks.due("input 0 and each gate of the AND, stuck at 1, explain pattern 62", x.run(), 6);
        Checks.due("the first one is input 0", x.suspect(0, 1), 0);
        Checks.due("it shows pattern 0 at the OR, too", x.suspect(0, 3), 1);
        Checks.due("the last one is the AND's last gate", x.suspect(5, 1), and);
        Checks.due("it shows all patterns but the last", x.suspect(5, 3), 62);
    }

    /** A chip whose faults show many different rows: each suspect's numbers are counted from what it shows. */
    private static void suspectsAreWhatTheyShow() {
        FailDiagnose x = sixInputsInAllPatterns();
        for (int net = 6; net < 16; net++) {
            x.gate(2 * net % 5, net - 6, net - 5);
        }
        long[] fails = {0x00ff00ff00ff00ffL, 0x123456789abcdefL};
        x.fail(x.output(14), fails[0]);
        x.fail(x.output(15), fails[1]);
        x.near(0, 5);
        x.near(6, 10);
        int n = x.run();
        Checks.due("there are enough of them to compare", n >= 20 ? 1 : 0, 1);
        for (int k = 0; k < n; k++) {
            suspectIsWhatItShows(x, k, fails);
        }
        Checks.due("the best pair's sum", x.pair(2), 2 * x.pair(4) + x.pair(5));
        Checks.due("its suspects are of different nets",
                x.suspect(x.pair(0), 1) == x.suspect(x.pair(1), 1) ? 1 : 0, 0);
    }

    private static void suspectIsWhatItShows(FailDiagnose x, int k, long[] fails) {
        int kind = x.suspect(k, 0);
        int which = kind < 2 ? x.suspect(k, 1) : x.suspect(k, 1) == 0 ? 0 : 1;
        int explained = 0;
        int missed = 0;
        int wrong = 0;
        for (int output = 0; output < fails.length; output++) {
            long shown = x.shows(kind, which, output);
            for (int pattern = 0; pattern < 64; pattern++) {
                boolean shows = (shown >>> pattern & 1) == 1;
                boolean failed = (fails[output] >>> pattern & 1) == 1;
                explained += shows && failed ? 1 : 0;
                missed += !shows && failed ? 1 : 0;
                wrong += shows && !failed ? 1 : 0;
            }
        }
        Checks.due("explained by suspect " + k, x.suspect(k, 4), explained);
        Checks.due("missed by suspect " + k, x.suspect(k, 5), missed);
        Checks.due("wrong of suspect " + k, x.suspect(k, 6), wrong);
        Checks.due("sum of suspect " + k, x.suspect(k, 3), 2 * missed + wrong);
        if (k > 0) {
            Checks.due("suspect " + k + " comes behind one of a lower sum, or the same",
                    x.suspect(k - 1, 3) <= x.suspect(k, 3) ? 1 : 0, 1);
        }
    }

    private static void eachStuckCellIsInItsSpan() {
        long[] should = {0x0f0f00ff3355aa71L, 0x8000000000000001L, 0x7fffffff00000000L};
        for (int cell = 0; cell < 64; cell++) {
            for (int v = 0; v < 2; v++) {
                FailDiagnose x = new FailDiagnose();
                x.chain(64);
                long upTo = -1L >>> (63 - cell);
                for (long row : should) {
                    x.caught(row, v == 0 ? row & ~upTo : row | upTo);
                }
                String which = "cell " + cell + " stuck at " + v;
                Checks.due(which + ", least", x.span(v, 0) <= cell && x.span(v, 0) >= 0 ? 1 : 0, 1);
                Checks.due(which + ", greatest", x.span(v, 1) >= cell ? 1 : 0, 1);
            }
        }
    }

    /** Every second chip fails in another pattern, which one suspect alone explains. */
    private static void sharesOfAHundredChips() {
        FailDiagnose x = Chips.andOfTwo();
        for (int chip = 0; chip < 100; chip++) {
            x.fail(0, chip % 2 == 0 ? 0b1000 : 0b0001);
            x.run();
            Checks.due("of the least sum", x.join(), chip % 2 == 0 ? 3 : 1);
        }
        Checks.due("chips", x.count(8), 100);
        Checks.due("share of an input", x.share(0), 50 * 840);
        Checks.due("share of the other input", x.share(1), 50 * 840);
        Checks.due("share of the gate's net", x.share(2), 50 * 840 + 50 * 2520);
    }

    private static void areasSquareBySquare() {
        FailDiagnose x = Chips.inputs(2);
        int[][] shapes = new int[40][];
        for (int k = 0; k < shapes.length; k++) {
            int left = k * 37 % 61;
            int bottom = k * 53 % 67;
            shapes[k] = new int[] {k % 2, left, bottom, left + 1 + k * 7 % 13, bottom + 1 + k * 11 % 17};
            x.shape(shapes[k][0], shapes[k][1], shapes[k][2], shapes[k][3], shapes[k][4]);
        }
        for (int g : new int[] {0, 1, 2, 5, 20}) {
            Checks.due("of net 0 grown by " + g, x.area(0, g), squares(shapes, 0, 0, g));
            Checks.due("of net 1 grown by " + g, x.area(1, g), squares(shapes, 1, 1, g));
            Checks.due("of both grown by " + g, x.common(0, 1, g), squares(shapes, 0, 1, g));
        }
    }

    private static int squares(int[][] shapes, int a, int b, int g) {
        int found = 0;
        for (int left = -100; left < 300; left++) {
            for (int bottom = -100; bottom < 300; bottom++) {
                found += covers(shapes, a, g, left, bottom) && covers(shapes, b, g, left, bottom) ? 1 : 0;
            }
        }
        return found;
    }

    private static boolean covers(int[][] shapes, int net, int g, int left, int bottom) {
        for (int[] s : shapes) {
            if (s[0] == net && s[1] - g <= left && left < s[3] + g && s[2] - g <= bottom && bottom < s[4] + g) {
                return true;
            }
        }
        return false;
    }

    private static void numbersAsTheyCome() {
        FailDiagnose x = new FailDiagnose();
        for (int k = 0; k < 32; k++) {
            Checks.due("an input", x.input(), 3 * k);
            Checks.due("a gate", x.gate(k % 7, 3 * k, 3 * k), 3 * k + 1);
            Checks.due("one more", x.gate(k % 7, 3 * k + 1, 0), 3 * k + 2);
        }
        Checks.refused(Checks.STATE, "the 33rd input", x::input);
        for (int net = 96; net < 200; net++) {
            Checks.due("a gate", x.gate(6, net - 1, 0), net);
        }
        Checks.refused(Checks.STATE, "the 201st net", () -> x.gate(6, 0, 0));
        Checks.due("nets", x.count(0), 200);
        Checks.due("inputs", x.count(1), 32);
    }

    private static void gatesOfNetsBeforeThem() {
        FailDiagnose x = new FailDiagnose();
        Checks.refused(Checks.INDEX, "a gate of itself, the first net", () -> x.gate(6, 0, 0));
        x.input();
        Checks.refused(Checks.INDEX, "a gate of itself", () -> x.gate(6, 1, 0));
        Checks.refused(Checks.INDEX, "a gate whose second is itself", () -> x.gate(0, 0, 1));
        Checks.refused(Checks.INDEX, "a gate of one behind it", () -> x.gate(0, 2, 0));
        Checks.due("a gate of the last one before it", x.gate(0, 0, 0), 1);
    }

    private static void theLastCall() {
        FailDiagnose x = Chips.full();
        for (int call = Chips.CALLS_OF_FULL + 1; call <= MOST_CALLS - 3; call++) {
            Checks.due("run", x.run(), 480);
        }
        Checks.due("the 510th call", x.join(), 2);
        Checks.due("the 511th call", x.count(8), 2);
        Checks.due("the 512th call", x.share(9), 2 * 2520);
    }

    /** Free is what they answer; but they end, and throw nothing that the document does not name. */
    private static void laterCalls() {
        FailDiagnose x = Chips.full();
        for (int round = 0; round < 20; round++) {
            for (int k = -1; k <= 64; k++) {
                laterRound(x, k);
            }
        }
        x.clear();
        Checks.due("nets after clear", x.count(0), 0);
    }

    private static void laterRound(FailDiagnose x, int k) {
        named("input", x::input);
        named("gate", () -> x.gate(k % 7, k, k));
        named("output", () -> x.output(k));
        named("near", () -> x.near(k, k + 1));
        named("fail", () -> x.fail(k, k));
        named("shows", () -> x.shows(k % 4, k, 0));
        named("join", x::join);
        named("suspect", () -> x.suspect(k, 3));
        named("caught", () -> x.caught(k, k));
        named("span", () -> x.span(k & 1, k >> 1 & 1));
        named("shape", () -> x.shape(k, 0, 0, 1, 1));
        named("common", () -> x.common(k, 0, k));
        named("count", () -> x.count(k));
    }

    private static void named(String call, LongSupplier made) {
        String answer = Checks.answer(made);
        if (!answer.matches("-?\\d+|IndexOutOfBoundsException|IllegalStateException|IllegalArgumentException")) {
            Checks.tell(call + " answered " + answer);
        }
    }
}
