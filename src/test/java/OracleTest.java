import java.util.ArrayList;
import java.util.HashMap;
import java.util.List;
import java.util.Map;
import java.util.Random;

/**
 * Runs of calls by chance (the same ones each time) against a slow model that follows the document's words one
 * by one: patterns one after the other, areas point by point, all suspects sorted by a comparison.
 */
public final class OracleTest {
    /** What an object answers behind so many calls is free. */
    private static final int MOST_CALLS = 512;

    private static int wrong = 0;

    /** An answer: a value, or the name of an exception. */
    private interface Call {
        long make();
    }

    private static String answer(Call call) {
        try {
            return Long.toString(call.make());
        } catch (IllegalStateException e) {
            return "IllegalStateException";
        } catch (IndexOutOfBoundsException e) {
            return "IndexOutOfBoundsException";
        } catch (IllegalArgumentException e) {
            return "IllegalArgumentException";
        } catch (RuntimeException e) {
            return e.toString();
        }
    }

    private static final class Fault {
        final int kind;
        final int number;
        final Map<Integer, Integer> stuck = new HashMap<>();
        int explained;
        int missed;
        int wrong;

        Fault(int kind, int number) {
            this.kind = kind;
            this.number = number;
        }

        int sum() {
            return 2 * missed + wrong;
        }
    }

    private static final class Model {
        final List<int[]> nets = new ArrayList<>();
        final Map<Integer, Long> inputs = new HashMap<>();
        final List<Integer> outputs = new ArrayList<>();
        final List<Long> fails = new ArrayList<>();
        final List<int[]> near = new ArrayList<>();
        final Map<Integer, Integer> shares = new HashMap<>();
        final List<int[]> shapes = new ArrayList<>();
        List<long[]> chain = null;
        int cells = 0;
        int patterns = 0;
        int chips = 0;
        List<Fault> told = null;
        int[] pair;

        static long bad(boolean index, boolean state, boolean argument) {
            if (index) {
                throw new IndexOutOfBoundsException();
            }
            if (state) {
                throw new IllegalStateException();
            }
            if (argument) {
                throw new IllegalArgumentException();
            }
            return 0;
        }

        boolean noNet(int net) {
            return net < 0 || net >= nets.size();
        }

        boolean noOutput(int output) {
            return output < 0 || output >= outputs.size();
        }

        long input() {
            bad(false, inputs.size() >= 32 || nets.size() >= 200, false);
            told = null;
            inputs.put(nets.size(), 0L);
            nets.add(new int[0]);
            return nets.size() - 1;
        }

        long gate(int kind, int a, int b) {
            boolean one = kind == 5 || kind == 6;
            bad(noNet(a) || !one && noNet(b), nets.size() >= 200, kind < 0 || kind > 6);
            told = null;
            nets.add(one ? new int[] {kind, a} : new int[] {kind, a, b});
            return nets.size() - 1;
        }

        long output(int net) {
            bad(noNet(net), outputs.size() >= 32, false);
            told = null;
            outputs.add(net);
            fails.add(0L);
            return outputs.size() - 1;
        }

        long patterns(int n) {
            bad(false, false, n < 0 || n > 64);
            told = null;
            int before = patterns;
            patterns = n;
            return before;
        }

        long pattern(int net, long row) {
            bad(!inputs.containsKey(net), false, false);
            told = null;
            return inputs.put(net, row);
        }

        /** The bits of all nets in one pattern; the fault's nets are held at its bits, or joined. */
        int[] bits(int pattern, Fault fault) {
            int[] good = bits(pattern, Map.of());
            if (fault.kind < 2) {
                return bits(pattern, fault.stuck);
            }
            int a = near.get(fault.number)[0];
            int b = near.get(fault.number)[1];
            int both = fault.kind == 2 ? Math.min(good[a], good[b]) : Math.max(good[a], good[b]);
            return bits(pattern, Map.of(a, both, b, both));
        }

        int[] bits(int pattern, Map<Integer, Integer> held) {
            int[] bits = new int[nets.size()];
            for (int net = 0; net < bits.length; net++) {
                if (held.containsKey(net)) {
                    bits[net] = held.get(net);
                } else if (inputs.containsKey(net)) {
                    bits[net] = (inputs.get(net) >> pattern & 1) == 1 ? 1 : 0;
                } else {
                    bits[net] = gateBit(nets.get(net), bits);
                }
            }
            return bits;
        }

        int gateBit(int[] gate, int[] bits) {
            boolean a = bits[gate[1]] == 1;
            boolean b = gate.length > 2 && bits[gate[2]] == 1;
            boolean[] bit = {a && b, a || b, a != b, !(a && b), !(a || b), !a, a};
            return bit[gate[0]] ? 1 : 0;
        }

        long row(int net) {
            bad(noNet(net), false, false);
            long row = 0;
            for (int p = 0; p < patterns; p++) {
                row |= (long) bits(p, Map.of())[net] << p;
            }
            return row;
        }

        long fail(int output, long row) {
            bad(noOutput(output), false, false);
            told = null;
            return fails.set(output, row);
        }

        boolean reaches(int a, int b) {
            if (a == b) {
                return true;
            }
            int[] gate = nets.get(b);
            for (int k = 1; k < gate.length; k++) {
                if (gate[k] >= a && reaches(a, gate[k])) {
                    return true;
                }
            }
            return false;
        }

        long near(int a, int b) {
            bad(noNet(a) || noNet(b), near.size() >= 40, false);
            bad(false, false, reaches(a, b) || reaches(b, a));
            told = null;
            for (int k = 0; k < near.size(); k++) {
                int[] pair = near.get(k);
                if (pair[0] + pair[1] == a + b && (pair[0] == a || pair[0] == b)) {
                    return k;
                }
            }
            near.add(new int[] {a, b});
            return near.size() - 1;
        }

        Fault fault(int kind, int number) {
            Fault fault = new Fault(kind, number);
            if (kind < 2) {
                fault.stuck.put(number, kind);
            }
            return fault;
        }

        long shows(int kind, int which, int output) {
            bad(kind < 0 || kind > 3 || noOutput(output), false, false);
            bad(which < 0 || which >= (kind < 2 ? nets.size() : near.size()), false, false);
            long row = 0;
            for (int p = 0; p < patterns; p++) {
                int net = outputs.get(output);
                if (bits(p, fault(kind, which))[net] != bits(p, Map.of())[net]) {
                    row |= 1L << p;
                }
            }
            return row;
        }

        void judge(Fault fault) {
            for (int p = 0; p < patterns; p++) {
                int[] good = bits(p, Map.of());
                int[] bits = bits(p, fault);
                for (int k = 0; k < outputs.size(); k++) {
                    boolean shown = good[outputs.get(k)] != bits[outputs.get(k)];
                    boolean failed = (fails.get(k) >> p & 1) == 1;
                    fault.explained += shown && failed ? 1 : 0;
                    fault.missed += !shown && failed ? 1 : 0;
                    fault.wrong += shown && !failed ? 1 : 0;
                }
            }
        }

        long run() {
            told = new ArrayList<>();
            for (int kind = 0; kind < 4; kind++) {
                for (int k = 0; k < (kind < 2 ? nets.size() : near.size()); k++) {
                    Fault fault = fault(kind, k);
                    judge(fault);
                    if (fault.explained > 0) {
                        told.add(fault);
                    }
                }
            }
            told.sort((a, b) -> a.sum() != b.sum() ? a.sum() - b.sum()
                    : a.kind != b.kind ? a.kind - b.kind : a.number - b.number);
            findPair();
            return told.size();
        }

        void findPair() {
            pair = new int[] {-1, -1, 0, 0, 0, 0};
            List<Integer> first = new ArrayList<>();
            for (int k = 0; k < told.size(); k++) {
                if (told.get(k).kind < 2 && first.size() < 12) {
                    first.add(k);
                }
            }
            for (int i : first) {
                for (int j : first) {
                    if (i < j && told.get(i).number != told.get(j).number) {
                        Fault both = new Fault(0, -1);
                        both.stuck.put(told.get(i).number, told.get(i).kind);
                        both.stuck.put(told.get(j).number, told.get(j).kind);
                        judge(both);
                        if (both.explained > 0 && (pair[0] == -1 || both.sum() < pair[2])) {
                            pair = new int[] {i, j, both.sum(), both.explained, both.missed, both.wrong};
                        }
                    }
                }
            }
        }

        long suspect(int k, int what) {
            bad(what < 0 || what > 6, told == null, false);
            bad(k < 0 || k >= told.size(), false, false);
            Fault f = told.get(k);
            int a = f.kind < 2 ? f.number : near.get(f.number)[0];
            int b = f.kind < 2 ? -1 : near.get(f.number)[1];
            return new int[] {f.kind, a, b, f.sum(), f.explained, f.missed, f.wrong}[what];
        }

        long pair(int what) {
            bad(what < 0 || what > 5, told == null, false);
            return pair[what];
        }

        long join() {
            bad(false, told == null, false);
            chips++;
            long n = told.stream().filter(f -> f.sum() == told.get(0).sum()).count();
            for (int k = 0; k < n && n <= 10; k++) {
                for (int what = 1; what <= 2; what++) {
                    shares.merge((int) suspect(k, what), 2520 / (int) n, Integer::sum);
                }
            }
            return n;
        }

        long share(int net) {
            bad(noNet(net), false, false);
            return shares.getOrDefault(net, 0);
        }

        long chain(int n) {
            bad(false, false, n < 1 || n > 64);
            cells = n;
            chain = new ArrayList<>();
            return 0;
        }

        long caught(long should, long came) {
            bad(false, chain == null || chain.size() >= 30, false);
            chain.add(new long[] {should, came});
            return chain.size();
        }

        long span(int v, int end) {
            bad(v < 0 || v > 1 || end < 0 || end > 1, chain == null, false);
            int found = -1;
            for (int c = 0; c < cells; c++) {
                boolean may = true;
                for (long[] row : chain) {
                    for (int k = 0; k < cells; k++) {
                        may &= (row[1] >> k & 1) == (k <= c ? v : row[0] >> k & 1);
                    }
                }
                if (may && (end == 1 || found == -1)) {
                    found = c;
                }
            }
            return found;
        }

        long shape(int net, int x0, int y0, int x1, int y1) {
            boolean outside = false;
            for (int c : new int[] {x0, y0, x1, y1}) {
                outside |= c < 0 || c > 1000;
            }
            bad(noNet(net), shapes.size() >= 60, outside || x0 >= x1 || y0 >= y1);
            shapes.add(new int[] {net, x0, y0, x1, y1});
            return shapes.stream().filter(s -> s[0] == net).count();
        }

        boolean[][] points(int net, int g) {
            boolean[][] points = new boolean[1200][1200];
            for (int[] s : shapes) {
                for (int x = s[1] - g; s[0] == net && x < s[3] + g; x++) {
                    for (int y = s[2] - g; y < s[4] + g; y++) {
                        points[x + 100][y + 100] = true;
                    }
                }
            }
            return points;
        }

        long common(int a, int b, int g) {
            bad(noNet(a) || noNet(b), false, g < 0 || g > 100);
            boolean[][] one = points(a, g);
            boolean[][] two = a == b ? one : points(b, g);
            int covered = 0;
            for (int x = 0; x < 1200; x++) {
                for (int y = 0; y < 1200; y++) {
                    covered += one[x][y] && two[x][y] ? 1 : 0;
                }
            }
            return covered;
        }

        long count(int what) {
            bad(what < 0 || what > 8, false, false);
            return new int[] {nets.size(), inputs.size(), outputs.size(), near.size(), told == null ? 0 : told.size(),
                shapes.size(), patterns, chain == null ? 0 : chain.size(), chips}[what];
        }
    }

    /** One run: an object, its model, and what is called on both. */
    private static final class Run {
        final int number;
        final Random chance;
        final FailDiagnose x = new FailDiagnose();
        final int mostNets;
        Model model = new Model();
        int calls = 0;

        Run(int number, int mostNets) {
            this.number = number;
            this.chance = new Random(number);
            this.mostNets = mostNets;
        }

        void same(String call, Call ofObject, Call ofModel) {
            calls++;
            if (calls > MOST_CALLS) {
                return;
            }
            String got = answer(ofObject);
            String want = answer(ofModel);
            if (!got.equals(want)) {
                wrong++;
                System.out.println("run " + number + ": " + call + " answered " + got + ", due is " + want);
            }
        }

        int upTo(int n) {
            return chance.nextInt(n + 1);
        }

        /** Mostly one that there is, at times one beside them. */
        int some(int n) {
            return chance.nextInt(12) == 0 || n == 0 ? upTo(n + 2) - 1 : chance.nextInt(n);
        }

        long someRow() {
            switch (chance.nextInt(4)) {
                case 0:
                    return chance.nextInt(256);
                case 1:
                    return -1L << chance.nextInt(64);
                case 2:
                    return chance.nextLong() & chance.nextLong() & chance.nextLong();
                default:
                    return chance.nextLong();
            }
        }

        int net() {
            return some(model.nets.size());
        }

        void build() {
            boolean small = model.nets.size() < mostNets;
            int kind = some(7);
            int a = net();
            int b = net();
            int n = chance.nextInt(8) == 0 ? upTo(66) - 1 : upTo(64);
            int output = some(model.outputs.size());
            long row = someRow();
            switch (chance.nextInt(small ? 9 : 6)) {
                case 0 -> same("output " + a, () -> x.output(a), () -> model.output(a));
                case 1 -> same("patterns " + n, () -> x.patterns(n), () -> model.patterns(n));
                case 2 -> same("pattern " + a, () -> x.pattern(a, row), () -> model.pattern(a, row));
                case 3 -> same("fail " + output, () -> x.fail(output, row), () -> model.fail(output, row));
                case 4, 5 -> same("near " + a + " " + b, () -> x.near(a, b), () -> model.near(a, b));
                case 6 -> same("input", x::input, () -> model.input());
                default -> same("gate " + kind + " " + a + " " + b, () -> x.gate(kind, a, b),
                        () -> model.gate(kind, a, b));
            }
        }

        /** Fails as a fault, or two of them, would show them, with some changed. */
        void failLikeAFault() {
            int kind = chance.nextInt(4);
            int faults = kind < 2 ? model.nets.size() : model.near.size();
            for (int k = 0; k < model.outputs.size() && faults > 0; k++) {
                int output = k;
                long row = model.shows(kind, (number + k / 3) % faults, k) | (chance.nextInt(5) == 0 ? someRow() : 0);
                same("fail " + k, () -> x.fail(output, row), () -> model.fail(output, row));
            }
        }

        void diagnose() {
            if (chance.nextBoolean()) {
                failLikeAFault();
            }
            same("run", x::run, model::run);
            for (int k = 0; model.told != null && k < model.told.size(); k++) {
                for (int what = 0; what < 7; what++) {
                    int suspect = k;
                    int of = what;
                    same("suspect " + k + " " + what, () -> x.suspect(suspect, of), () -> model.suspect(suspect, of));
                }
            }
            for (int what = 0; what < 6; what++) {
                int of = what;
                same("pair " + what, () -> x.pair(of), () -> model.pair(of));
            }
            if (chance.nextBoolean()) {
                same("join", x::join, model::join);
            }
        }

        void ask() {
            int a = net();
            int b = some(9);
            int c = some(5);
            int output = some(model.outputs.size());
            switch (chance.nextInt(7)) {
                case 0 -> same("row " + a, () -> x.row(a), () -> model.row(a));
                case 1 -> same("share " + a, () -> x.share(a), () -> model.share(a));
                case 2 -> same("count " + b, () -> x.count(b), () -> model.count(b));
                case 3 -> same("suspect " + c + " " + b, () -> x.suspect(c, b), () -> model.suspect(c, b));
                case 4 -> same("pair " + b, () -> x.pair(b), () -> model.pair(b));
                case 5 -> same("join", x::join, model::join);
                default -> same("shows " + c + " " + a + " " + output, () -> x.shows(c, a, output),
                        () -> model.shows(c, a, output));
            }
        }

        void chain() {
            int n = chance.nextInt(4) == 0 ? upTo(66) - 1 : 1 + upTo(9);
            same("chain " + n, () -> {
                x.chain(n);
                return 0;
            }, () -> model.chain(n));
            int cell = upTo(Math.max(0, n - 1));
            int v = upTo(1);
            for (int k = upTo(5); k >= 0; k--) {
                long should = someRow();
                long low = -1L >>> (63 - Math.min(63, cell));
                long noise = chance.nextInt(20) == 0 ? 1L << upTo(63) : 0;
                long came = (v == 0 ? should & ~low : should | low) ^ noise;
                same("caught", () -> x.caught(should, came), () -> model.caught(should, came));
            }
            for (int k = -1; k < 3; k++) {
                int of = k;
                int end = some(2);
                same("span " + k + " " + end, () -> x.span(of, end), () -> model.span(of, end));
            }
        }

        void shapes() {
            for (int k = upTo(6); k >= 0; k--) {
                int net = Math.min(net(), 2);
                int x0 = upTo(1000);
                int y0 = upTo(1000);
                int x1 = x0 + upTo(300);
                int y1 = y0 + upTo(300);
                same("shape " + net, () -> x.shape(net, x0, y0, x1, y1), () -> model.shape(net, x0, y0, x1, y1));
            }
            int a = Math.min(net(), 2);
            int b = Math.min(net(), 2);
            int g = chance.nextInt(4) == 0 ? 0 : upTo(102) - 1;
            same("area " + a + " " + g, () -> x.area(a, g), () -> model.common(a, a, g));
            same("common " + a + " " + b + " " + g, () -> x.common(a, b, g), () -> model.common(a, b, g));
        }

        void go() {
            while (calls < MOST_CALLS) {
                for (int k = upTo(5); k >= 0; k--) {
                    build();
                }
                switch (chance.nextInt(6)) {
                    case 0 -> diagnose();
                    case 1 -> chain();
                    case 2 -> shapes();
                    default -> ask();
                }
                if (chance.nextInt(100) == 0) {
                    same("clear", () -> {
                        x.clear();
                        return 0;
                    }, () -> {
                        model = new Model();
                        return 0;
                    });
                }
            }
        }
    }

    public static void main(String[] args) {
        for (int number = 0; number < 240; number++) {
            new Run(number, 4 + number % 30).go();
        }
        if (wrong != 0) {
            System.out.println(wrong + " answers are not as due");
            System.exit(1);
        }
    }
}
