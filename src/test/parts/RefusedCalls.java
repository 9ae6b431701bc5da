import java.util.function.Supplier;
import java.util.function.ToLongFunction;

/** Which exception comes first, and that a call that throws changes nothing: every call, for every reason. */
final class RefusedCalls {
    private static final Class<?> INDEX = Checks.INDEX;
    private static final Class<?> STATE = Checks.STATE;
    private static final Class<?> ARGUMENT = Checks.ARGUMENT;

    private RefusedCalls() {
    }

    static void tests(Sentences s) {
        s.section("Terms");
        String first = "Methods throw what their comments name, the one named first when several would do";
        s.test(first, RefusedCalls::inputWithBothReasons);
        s.test(first, RefusedCalls::gateWithSeveralReasons);
        s.test(first, RefusedCalls::outputWithSeveralReasons);
        s.test(first, RefusedCalls::nearWithSeveralReasons);
        s.test(first, RefusedCalls::suspectWithSeveralReasons);
        s.test(first, RefusedCalls::pairWithSeveralReasons);
        s.test(first, RefusedCalls::spanWithSeveralReasons);
        s.test(first, RefusedCalls::shapeWithSeveralReasons);
        s.test(first, RefusedCalls::areaWithSeveralReasons);
        s.test(first, RefusedCalls::commonWithSeveralReasons);
        String none = "IndexOutOfBoundsException: there is no such net, input, output, pair, suspect or what";
        s.test(none, RefusedCalls::noSuchNet);
        s.test(none, RefusedCalls::noSuchInput);
        s.test(none, RefusedCalls::noSuchOutput);
        s.test(none, RefusedCalls::noSuchPair);
        s.test(none, RefusedCalls::noSuchSuspect);
        s.test(none, RefusedCalls::noSuchWhat);
        String nothing = "A call that throws changes nothing";
        s.test(nothing, RefusedCalls::refusedOnNothing);
        s.test(nothing, RefusedCalls::refusedOfTheCircuit);
        s.test(nothing, RefusedCalls::refusedOfThePatterns);
        s.test(nothing, RefusedCalls::refusedOfSuspects);
        s.test(nothing, RefusedCalls::refusedWhenNoneAreTold);
        s.test(nothing, RefusedCalls::refusedOfTheChain);
        s.test(nothing, RefusedCalls::refusedOfShapes);
        s.test(nothing, RefusedCalls::refusedWhenAllPlacesAreTaken);
    }

    private static void inputWithBothReasons() {
        FailDiagnose x = Chips.full();
        Checks.refused(STATE, "input() of 32 inputs and 200 nets", x::input);
    }

    private static void gateWithSeveralReasons() {
        FailDiagnose x = Chips.full();
        Checks.refused(INDEX, "all three, by a", () -> x.gate(7, 200, 0));
        Checks.refused(INDEX, "all three, by b", () -> x.gate(-1, 0, 200));
        Checks.refused(INDEX, "no net, and 200", () -> x.gate(0, -1, 0));
        Checks.refused(INDEX, "no net of the only one asked for, and 200", () -> x.gate(5, 200, 0));
        Checks.refused(STATE, "200, and no kind", () -> x.gate(7, 0, 0));
        Checks.refused(STATE, "200, and b is not asked for", () -> x.gate(5, 0, 200));
        Checks.refused(STATE, "200, and b is not asked for", () -> x.gate(6, 0, -1));
        FailDiagnose y = Chips.inputs(1);
        Checks.refused(INDEX, "no net, and no kind", () -> y.gate(7, 1, 0));
        Checks.refused(INDEX, "no b, and no kind", () -> y.gate(7, 0, 1));
        Checks.refused(INDEX, "no b, and no kind", () -> y.gate(-1, 0, -1));
    }

    private static void outputWithSeveralReasons() {
        FailDiagnose x = Chips.failingInputs(32);
        Checks.refused(INDEX, "no net, and 32", () -> x.output(32));
        Checks.refused(INDEX, "no net, and 32", () -> x.output(-1));
    }

    private static void nearWithSeveralReasons() {
        FailDiagnose x = Chips.full();
        Checks.refused(INDEX, "no a, and 40", () -> x.near(200, 0));
        Checks.refused(INDEX, "no b, and 40", () -> x.near(0, -1));
        Checks.refused(INDEX, "all three: no net twice", () -> x.near(200, 200));
        Checks.refused(STATE, "40, and itself", () -> x.near(0, 0));
        Checks.refused(STATE, "40, and one reaches the other", () -> x.near(0, 32));
        FailDiagnose y = Chips.inputs(1);
        Checks.refused(INDEX, "no net twice", () -> y.near(1, 1));
        Checks.refused(INDEX, "no net twice", () -> y.near(-1, -1));
    }

    private static void suspectWithSeveralReasons() {
        FailDiagnose x = Chips.andOfTwo();
        Checks.refused(INDEX, "no what, not told, no suspect", () -> x.suspect(0, 7));
        Checks.refused(INDEX, "no what, not told, no suspect", () -> x.suspect(-1, -1));
        Checks.refused(STATE, "not told, and no suspect", () -> x.suspect(-1, 0));
        Checks.refused(STATE, "not told, and no suspect", () -> x.suspect(480, 6));
        x.run();
        Checks.refused(INDEX, "no what, and no suspect", () -> x.suspect(0, 7));
        Checks.refused(INDEX, "told, but no suspect", () -> x.suspect(0, 0));
    }

    private static void pairWithSeveralReasons() {
        FailDiagnose x = Chips.andOfTwo();
        Checks.refused(INDEX, "no what, and not told", () -> x.pair(6));
        Checks.refused(INDEX, "no what, and not told", () -> x.pair(-1));
    }

    private static void spanWithSeveralReasons() {
        FailDiagnose x = new FailDiagnose();
        Checks.refused(INDEX, "no v, and no chain", () -> x.span(2, 0));
        Checks.refused(INDEX, "no end, and no chain", () -> x.span(0, 2));
        Checks.refused(INDEX, "neither, and no chain", () -> x.span(-1, -1));
    }

    private static void shapeWithSeveralReasons() {
        FailDiagnose x = Chips.full();
        Checks.refused(INDEX, "all three", () -> x.shape(200, 5, 5, 5, 5));
        Checks.refused(INDEX, "no net, and 60", () -> x.shape(-1, 0, 0, 5, 5));
        Checks.refused(STATE, "60, and a coordinate", () -> x.shape(0, -1, 0, 5, 5));
        Checks.refused(STATE, "60, and no width", () -> x.shape(0, 5, 0, 5, 5));
        FailDiagnose y = Chips.inputs(1);
        Checks.refused(INDEX, "no net, and a coordinate", () -> y.shape(1, 0, 0, 5, 1001));
    }

    private static void areaWithSeveralReasons() {
        FailDiagnose x = Chips.inputs(1);
        Checks.refused(INDEX, "no net, and no g", () -> x.area(1, 101));
        Checks.refused(INDEX, "no net, and no g", () -> x.area(-1, -1));
    }

    private static void commonWithSeveralReasons() {
        FailDiagnose x = Chips.inputs(1);
        Checks.refused(INDEX, "no a, and no g", () -> x.common(1, 0, 101));
        Checks.refused(INDEX, "no b, and no g", () -> x.common(0, 1, -1));
        Checks.refused(INDEX, "neither, and no g", () -> x.common(-1, -1, 101));
    }

    private static void noSuchNet() {
        FailDiagnose x = Chips.andOfTwo();
        for (int net : Checks.beside(3)) {
            Checks.refused(INDEX, "gate of a " + net, () -> x.gate(0, net, 0));
            Checks.refused(INDEX, "gate of b " + net, () -> x.gate(0, 0, net));
            Checks.refused(INDEX, "output " + net, () -> x.output(net));
            Checks.refused(INDEX, "row " + net, () -> x.row(net));
            Checks.refused(INDEX, "near a " + net, () -> x.near(net, 0));
            Checks.refused(INDEX, "near b " + net, () -> x.near(0, net));
            Checks.refused(INDEX, "shows 0 " + net, () -> x.shows(0, net, 0));
            Checks.refused(INDEX, "shows 1 " + net, () -> x.shows(1, net, 0));
            Checks.refused(INDEX, "share " + net, () -> x.share(net));
            Checks.refused(INDEX, "shape " + net, () -> x.shape(net, 0, 0, 1, 1));
            Checks.refused(INDEX, "area " + net, () -> x.area(net, 0));
            Checks.refused(INDEX, "common a " + net, () -> x.common(net, 0, 0));
            Checks.refused(INDEX, "common b " + net, () -> x.common(0, net, 0));
        }
        Checks.due("the last net is there", x.row(2), 8);
    }

    private static void noSuchInput() {
        FailDiagnose x = Chips.andOfTwo();
        for (int net : Checks.beside(2)) {
            Checks.refused(INDEX, "pattern " + net, () -> x.pattern(net, 0));
        }
        Checks.due("the last input is there", x.pattern(1, 0), 10);
    }

    private static void noSuchOutput() {
        FailDiagnose x = Chips.andOfTwo();
        for (int output : Checks.beside(1)) {
            Checks.refused(INDEX, "fail " + output, () -> x.fail(output, 0));
            Checks.refused(INDEX, "shows at " + output, () -> x.shows(0, 0, output));
        }
        Checks.due("the last output is there", x.shows(0, 0, 0), 8);
    }

    private static void noSuchPair() {
        FailDiagnose x = Chips.andOfTwo();
        Checks.refused(INDEX, "shows of no pair yet", () -> x.shows(2, 0, 0));
        Checks.refused(INDEX, "shows of no pair yet", () -> x.shows(3, 0, 0));
        x.near(0, 1);
        for (int pair : Checks.beside(1)) {
            Checks.refused(INDEX, "shows of pair " + pair, () -> x.shows(2, pair, 0));
            Checks.refused(INDEX, "shows of pair " + pair, () -> x.shows(3, pair, 0));
        }
        Checks.due("the last pair is there", x.shows(3, 0, 0), 6);
    }

    private static void noSuchSuspect() {
        FailDiagnose x = Chips.told();
        for (int k : Checks.beside(3)) {
            Checks.refused(INDEX, "suspect " + k, () -> x.suspect(k, 0));
        }
        Checks.due("the last suspect is there", x.suspect(2, 1), 2);
    }

    private static void noSuchWhat() {
        FailDiagnose x = Chips.told();
        for (int what : Checks.beside(7)) {
            Checks.refused(INDEX, "suspect's " + what, () -> x.suspect(0, what));
        }
        for (int what : Checks.beside(6)) {
            Checks.refused(INDEX, "pair's " + what, () -> x.pair(what));
        }
        for (int what : Checks.beside(9)) {
            Checks.refused(INDEX, "count " + what, () -> x.count(what));
        }
        Checks.due("suspect's last what is there", x.suspect(0, 6), 0);
        Checks.due("pair's last what is there", x.pair(5), 0);
        Checks.due("the last count is there", x.count(8), 0);
    }

    private static void changesNothing(Supplier<FailDiagnose> made, Class<?> want, String name,
            ToLongFunction<FailDiagnose> call) {
        FailDiagnose x = made.get();
        Checks.refused(want, name, () -> call.applyAsLong(x));
        int before = Checks.wrong();
        Twins.areTheSame(x, made.get());
        if (Checks.wrong() != before) {
            Checks.tell("that was behind the refused " + name);
        }
    }

    private static void refusedOnNothing() {
        Supplier<FailDiagnose> nothing = FailDiagnose::new;
        changesNothing(nothing, INDEX, "gate", x -> x.gate(0, 0, 0));
        changesNothing(nothing, INDEX, "output", x -> x.output(0));
        changesNothing(nothing, ARGUMENT, "patterns", x -> x.patterns(65));
        changesNothing(nothing, INDEX, "pattern", x -> x.pattern(0, 1));
        changesNothing(nothing, INDEX, "row", x -> x.row(0));
        changesNothing(nothing, INDEX, "fail", x -> x.fail(0, 1));
        changesNothing(nothing, INDEX, "near", x -> x.near(0, 1));
        changesNothing(nothing, INDEX, "shows", x -> x.shows(0, 0, 0));
        changesNothing(nothing, STATE, "suspect", x -> x.suspect(0, 0));
        changesNothing(nothing, STATE, "pair", x -> x.pair(0));
        changesNothing(nothing, STATE, "join", FailDiagnose::join);
        changesNothing(nothing, INDEX, "share", x -> x.share(0));
        changesNothing(nothing, ARGUMENT, "chain", x -> begun(x, 0));
        changesNothing(nothing, STATE, "caught", x -> x.caught(1, 1));
        changesNothing(nothing, STATE, "span", x -> x.span(0, 0));
        changesNothing(nothing, INDEX, "shape", x -> x.shape(0, 0, 0, 1, 1));
        changesNothing(nothing, INDEX, "area", x -> x.area(0, 0));
        changesNothing(nothing, INDEX, "common", x -> x.common(0, 0, 0));
        changesNothing(nothing, INDEX, "count", x -> x.count(9));
    }

    private static void refusedOfTheCircuit() {
        Supplier<FailDiagnose> chip = Chips::withSomething;
        changesNothing(chip, INDEX, "gate of no a", x -> x.gate(0, 3, 0));
        changesNothing(chip, INDEX, "gate of no b", x -> x.gate(0, 0, -1));
        changesNothing(chip, ARGUMENT, "gate of kind 7", x -> x.gate(7, 0, 1));
        changesNothing(chip, ARGUMENT, "gate of kind -1", x -> x.gate(-1, 0, 1));
        changesNothing(chip, INDEX, "output of no net", x -> x.output(3));
        changesNothing(chip, INDEX, "near of no a", x -> x.near(3, 0));
        changesNothing(chip, INDEX, "near of no b", x -> x.near(0, 3));
        changesNothing(chip, ARGUMENT, "near itself", x -> x.near(0, 0));
        changesNothing(chip, ARGUMENT, "near one that it reaches", x -> x.near(0, 2));
        changesNothing(chip, ARGUMENT, "near one that reaches it", x -> x.near(2, 1));
        changesNothing(chip, INDEX, "row of no net", x -> x.row(3));
    }

    private static void refusedOfThePatterns() {
        Supplier<FailDiagnose> chip = Chips::withSomething;
        changesNothing(chip, ARGUMENT, "patterns(-1)", x -> x.patterns(-1));
        changesNothing(chip, ARGUMENT, "patterns(65)", x -> x.patterns(65));
        changesNothing(chip, INDEX, "pattern of a gate's net", x -> x.pattern(2, 1));
        changesNothing(chip, INDEX, "pattern of no net", x -> x.pattern(3, 1));
        changesNothing(chip, INDEX, "pattern of -1", x -> x.pattern(-1, 1));
        changesNothing(chip, INDEX, "fail of no output", x -> x.fail(2, 1));
        changesNothing(chip, INDEX, "fail of -1", x -> x.fail(-1, 1));
        changesNothing(chip, INDEX, "shows of no kind", x -> x.shows(4, 0, 0));
        changesNothing(chip, INDEX, "shows of no net", x -> x.shows(0, 3, 0));
        changesNothing(chip, INDEX, "shows of no pair", x -> x.shows(2, 1, 0));
        changesNothing(chip, INDEX, "shows at no output", x -> x.shows(0, 0, 2));
    }

    private static void refusedOfSuspects() {
        Supplier<FailDiagnose> chip = Chips::withSomething;
        changesNothing(chip, INDEX, "suspect of no what", x -> x.suspect(0, 7));
        changesNothing(chip, INDEX, "no such suspect", x -> x.suspect(480, 0));
        changesNothing(chip, INDEX, "suspect -1", x -> x.suspect(-1, 0));
        changesNothing(chip, INDEX, "pair of no what", x -> x.pair(6));
        changesNothing(chip, INDEX, "share of no net", x -> x.share(3));
        changesNothing(chip, INDEX, "count of no what", x -> x.count(-1));
    }

    private static void refusedWhenNoneAreTold() {
        Supplier<FailDiagnose> chip = Chips::withSomethingNotTold;
        changesNothing(chip, STATE, "suspect", x -> x.suspect(0, 0));
        changesNothing(chip, STATE, "pair", x -> x.pair(0));
        changesNothing(chip, STATE, "join", FailDiagnose::join);
        changesNothing(chip, INDEX, "gate", x -> x.gate(0, 9, 9));
    }

    private static void refusedOfTheChain() {
        Supplier<FailDiagnose> chip = Chips::withSomething;
        changesNothing(chip, ARGUMENT, "chain(0)", x -> begun(x, 0));
        changesNothing(chip, ARGUMENT, "chain(65)", x -> begun(x, 65));
        changesNothing(chip, INDEX, "span of v 2", x -> x.span(2, 0));
        changesNothing(chip, INDEX, "span of end 2", x -> x.span(0, 2));
    }

    private static void refusedOfShapes() {
        Supplier<FailDiagnose> chip = Chips::withSomething;
        changesNothing(chip, INDEX, "shape of no net", x -> x.shape(3, 0, 0, 1, 1));
        changesNothing(chip, ARGUMENT, "shape beyond 1000", x -> x.shape(0, 0, 0, 1, 1001));
        changesNothing(chip, ARGUMENT, "shape below 0", x -> x.shape(0, -1, 0, 1, 1));
        changesNothing(chip, ARGUMENT, "shape without width", x -> x.shape(0, 100, 0, 100, 1));
        changesNothing(chip, ARGUMENT, "shape without height", x -> x.shape(0, 0, 100, 1, 100));
        changesNothing(chip, INDEX, "area of no net", x -> x.area(3, 0));
        changesNothing(chip, ARGUMENT, "area grown by 101", x -> x.area(0, 101));
        changesNothing(chip, INDEX, "common of no net", x -> x.common(0, 3, 0));
        changesNothing(chip, ARGUMENT, "common grown by -1", x -> x.common(0, 1, -1));
    }

    private static void refusedWhenAllPlacesAreTaken() {
        Supplier<FailDiagnose> full = Chips::full;
        changesNothing(full, STATE, "input", FailDiagnose::input);
        changesNothing(full, STATE, "gate", x -> x.gate(1, 0, 1));
        changesNothing(full, STATE, "output", x -> x.output(0));
        changesNothing(full, STATE, "near", x -> x.near(20, 21));
        changesNothing(full, STATE, "caught", x -> x.caught(0, 0));
        changesNothing(full, STATE, "shape", x -> x.shape(0, 900, 0, 950, 100));
        changesNothing(() -> Chips.failingInputs(32), STATE, "33rd input", FailDiagnose::input);
        changesNothing(() -> Chips.nots(200), STATE, "2nd input of 200 nets", FailDiagnose::input);
    }

    static long begun(FailDiagnose x, int n) {
        x.chain(n);
        return 0;
    }
}
