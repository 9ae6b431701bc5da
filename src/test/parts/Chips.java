/** Objects in a known state. Each one leaves calls for its test: an object answers 512 at most. */
final class Chips {
    static final int CALLS_OF_FULL = 430;

    private Chips() {
    }

    static FailDiagnose inputs(int n) {
        FailDiagnose x = new FailDiagnose();
        addInputs(x, n);
        return x;
    }

    static void addInputs(FailDiagnose x, int n) {
        for (int k = 0; k < n; k++) {
            x.input();
        }
    }

    /** One input, and behind it NOTs of the net before. */
    static FailDiagnose nots(int nets) {
        FailDiagnose x = inputs(1);
        for (int net = 1; net < nets; net++) {
            x.gate(5, net - 1, 0);
        }
        return x;
    }

    /** Inputs of row 0, each one an output, in one pattern that all of them fail. */
    static FailDiagnose failingInputs(int n) {
        FailDiagnose x = inputs(n);
        x.patterns(1);
        for (int k = 0; k < n; k++) {
            x.fail(x.output(k), 1);
        }
        return x;
    }

    /** Two inputs with all four patterns (rows 12 and 10), and their AND, net 2, which is output 0. */
    static FailDiagnose andOfTwo() {
        FailDiagnose x = new FailDiagnose();
        addAndOfTwo(x);
        return x;
    }

    private static void addAndOfTwo(FailDiagnose x) {
        addInputs(x, 2);
        x.gate(0, 0, 1);
        x.output(2);
        x.patterns(4);
        x.pattern(0, 12);
        x.pattern(1, 10);
    }

    /** The AND of two, whose one 1 came out as 0: nets 0, 1 and 2 are suspects, stuck at 0. */
    static FailDiagnose told() {
        FailDiagnose x = andOfTwo();
        x.near(0, 1);
        x.fail(0, 8);
        x.run();
        return x;
    }

    static FailDiagnose withSomething() {
        FailDiagnose x = new FailDiagnose();
        putSomething(x);
        return x;
    }

    /** Something of everything: told suspects, a joined chip, a chain with rows, shapes. */
    static void putSomething(FailDiagnose x) {
        addAndOfTwo(x);
        x.near(1, 0);
        x.fail(x.output(0), 6);
        x.fail(0, 8);
        x.run();
        x.join();
        x.chain(5);
        x.caught(0b10110, 0b10111);
        x.caught(0b01010, 0b01011);
        x.shape(0, 0, 0, 30, 40);
        x.shape(0, 20, 20, 50, 60);
        x.shape(1, 10, 30, 70, 50);
    }

    static FailDiagnose withSomethingNotTold() {
        FailDiagnose x = withSomething();
        x.patterns(4);
        return x;
    }

    /**
     * As many of everything as there may be: 32 inputs, columns of NOTs below them, all of whose ends fail. The pairs
     * of nets 8 and 9 and of nets 10 and 9, joined by AND, show nothing wrong: these two have the least sum.
     */
    static FailDiagnose full() {
        FailDiagnose x = inputs(32);
        for (int net = 32; net < 200; net++) {
            x.gate(5, net - 32, 0);
        }
        x.patterns(64);
        for (int k = 0; k < 32; k++) {
            x.pattern(k, k % 2 == 0 ? 0x5555555555555555L : 0xaaaaaaaaaaaaaaaaL);
            x.fail(x.output(168 + k), -1L - k);
        }
        for (int k = 0; k < 40; k++) {
            x.near(2 * (k % 8), 2 * (k / 8) + 1);
        }
        x.run();
        x.join();
        x.chain(64);
        for (int k = 0; k < 30; k++) {
            x.caught(-1L, -8L);
        }
        for (int k = 0; k < 60; k++) {
            x.shape(k % 2, 10 * k, 900 - 10 * k, 10 * k + 25, 1000 - 10 * k);
        }
        return x;
    }
}
