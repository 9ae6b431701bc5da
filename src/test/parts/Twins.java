import java.util.function.ToLongFunction;

/** Asks two objects the same, some 80 calls each: whether they are in the same state. */
final class Twins {
    private final FailDiagnose x;
    private final FailDiagnose y;

    private Twins(FailDiagnose x, FailDiagnose y) {
        this.x = x;
        this.y = y;
    }

    /** Uses both up: what was put can be asked for only by putting something else. */
    static void areTheSame(FailDiagnose x, FailDiagnose y) {
        Twins twins = new Twins(x, y);
        twins.counts();
        twins.suspects();
        twins.nets();
        twins.faults();
        twins.chains();
        twins.shapes();
        twins.whatWasPut();
        twins.whatComesNext();
    }

    private long both(String call, ToLongFunction<FailDiagnose> made) {
        String want = Checks.answer(() -> made.applyAsLong(y));
        Checks.same(call, Checks.answer(() -> made.applyAsLong(x)), want);
        return want.endsWith("Exception") ? 0 : Long.parseLong(want);
    }

    private void counts() {
        for (int what = 0; what <= 8; what++) {
            int of = what;
            both("count " + what, o -> o.count(of));
        }
    }

    private void suspects() {
        int last = y.count(4) - 1;
        for (int what = 0; what <= 6; what++) {
            int of = what;
            both("first suspect, " + what, o -> o.suspect(0, of));
            both("last suspect, " + what, o -> o.suspect(last, of));
        }
        for (int what = 0; what <= 5; what++) {
            int of = what;
            both("pair " + what, o -> o.pair(of));
        }
    }

    private void nets() {
        for (int net : new int[] {0, 1, y.count(0) - 1}) {
            both("row of " + net, o -> o.row(net));
            both("share of " + net, o -> o.share(net));
        }
    }

    private void faults() {
        int lastNet = y.count(0) - 1;
        int lastPair = y.count(3) - 1;
        int lastOutput = y.count(2) - 1;
        both("net 0 stuck at 1", o -> o.shows(1, 0, 0));
        both("last net stuck at 0", o -> o.shows(0, lastNet, lastOutput));
        both("pair 0 joined by OR", o -> o.shows(3, 0, 0));
        both("last pair joined by AND", o -> o.shows(2, lastPair, lastOutput));
    }

    private void chains() {
        both("least stuck at 0", o -> o.span(0, 0));
        both("greatest stuck at 0", o -> o.span(0, 1));
        both("least stuck at 1", o -> o.span(1, 0));
        both("greatest stuck at 1", o -> o.span(1, 1));
    }

    private void shapes() {
        both("area of net 0", o -> o.area(0, 0));
        both("area of net 1, grown", o -> o.area(1, 7));
        both("area of both", o -> o.common(0, 1, 3));
    }

    private void whatWasPut() {
        int lastOutput = y.count(2) - 1;
        both("patterns", o -> o.patterns(64));
        both("whole row of the last net", o -> o.row(o.count(0) - 1));
        both("row of input 0 as it was put", o -> o.pattern(0, 5));
        both("row of input 1 as it was put", o -> o.pattern(1, 6));
        both("fails of output 0 as they were put", o -> o.fail(0, 3));
        both("fails of the last output as they were put", o -> o.fail(lastOutput, 1));
    }

    private void whatComesNext() {
        both("input", FailDiagnose::input);
        both("gate", o -> o.gate(2, 0, 1));
        both("output", o -> o.output(1));
        both("near", o -> o.near(0, 1));
        both("run", FailDiagnose::run);
        both("join", FailDiagnose::join);
        both("share of net 0", o -> o.share(0));
        both("caught", o -> o.caught(0b10, 0b11));
        both("least stuck at 1 behind one row more", o -> o.span(1, 0));
        both("shape", o -> o.shape(0, 500, 500, 501, 502));
        both("area of net 0 with one shape more", o -> o.area(0, 0));
    }
}
