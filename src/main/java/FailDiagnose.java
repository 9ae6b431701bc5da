import java.util.Arrays;

/**
 * Why a chip fails: suspects among the nets of a circuit, cells of a shift chain that may be stuck, shares of
 * nets over many chips, and areas of shapes. Every row is made with the object and used again, so that no call
 * makes an object.
 */
public final class FailDiagnose {
    public static final int NONE = -1;

    private static final int MOST_NETS = 200;
    private static final int MOST_INPUTS = 32;
    private static final int MOST_OUTPUTS = 32;
    private static final int MOST_PATTERNS = 64;
    private static final int MOST_NEAR_PAIRS = 40;
    private static final int MOST_SUSPECTS = 2 * MOST_NETS + 2 * MOST_NEAR_PAIRS;
    private static final int MOST_CELLS = 64;
    private static final int MOST_CHAIN_ROWS = 30;
    private static final int MOST_SHAPES = 60;
    private static final int MOST_COORDINATE = 1000;
    private static final int MOST_GROWTH = 100;

    private static final int INPUT = -1;
    private static final int AND = 0;
    private static final int OR = 1;
    private static final int XOR = 2;
    private static final int NOT_AND = 3;
    private static final int NOT_OR = 4;
    private static final int NOT = 5;
    private static final int SAME = 6;

    private static final int STUCK_AT_0 = 0;
    private static final int STUCK_AT_1 = 1;
    private static final int JOINED_BY_AND = 2;
    private static final int JOINED_BY_OR = 3;

    /** So many of the first stuck suspects are tried in pairs. */
    private static final int TRIED_IN_PAIRS = 12;

    /** What a chip gives in all; 1 .. MOST_GIVERS divide it. */
    private static final int GIVEN_BY_A_CHIP = 2520;
    private static final int MOST_GIVERS = 10;

    private final Circuit circuit;
    private final Outputs outputs;
    private final NearPairs nearPairs;
    private final Diagnosis diagnosis;
    private final Shares shares;
    private final Chain cells;
    private final Shapes shapes;
    private boolean told;

    public FailDiagnose() {
        circuit = new Circuit();
        outputs = new Outputs();
        nearPairs = new NearPairs();
        diagnosis = new Diagnosis(circuit, outputs, nearPairs);
        shares = new Shares();
        cells = new Chain();
        shapes = new Shapes();
        told = false;
    }

    public int input() throws IllegalStateException {
        if (circuit.inputs() == MOST_INPUTS || circuit.nets() == MOST_NETS) {
            throw new IllegalStateException("no room for an input");
        }
        told = false;
        return circuit.addInput();
    }

    public int gate(int kind, int a, int b)
            throws IndexOutOfBoundsException, IllegalStateException, IllegalArgumentException {
        boolean asksForB = kind != NOT && kind != SAME;
        needNet(a);
        if (asksForB) {
            needNet(b);
        }
        if (circuit.nets() == MOST_NETS) {
            throw new IllegalStateException("no room for a net");
        }
        if (kind < AND || kind > SAME) {
            throw new IllegalArgumentException("no such kind of gate");
        }
        told = false;
        return circuit.addGate(kind, a, asksForB ? b : a);
    }

    public int output(int net) throws IndexOutOfBoundsException, IllegalStateException {
        needNet(net);
        if (outputs.size() == MOST_OUTPUTS) {
            throw new IllegalStateException("no room for an output");
        }
        told = false;
        return outputs.add(net);
    }

    public int patterns(int n) throws IllegalArgumentException {
        if (n < 0 || n > MOST_PATTERNS) {
            throw new IllegalArgumentException("patterns are 0 to 64");
        }
        told = false;
        return circuit.putPatterns(n);
    }

    public long pattern(int net, long row) throws IndexOutOfBoundsException {
        if (!circuit.hasInput(net)) {
            throw new IndexOutOfBoundsException("no such input");
        }
        told = false;
        return circuit.putRow(net, row);
    }

    public long row(int net) throws IndexOutOfBoundsException {
        needNet(net);
        return circuit.goodRow(net);
    }

    public long fail(int output, long row) throws IndexOutOfBoundsException {
        needOutput(output);
        told = false;
        return outputs.putFails(output, row);
    }

    public int near(int a, int b) throws IndexOutOfBoundsException, IllegalStateException, IllegalArgumentException {
        needNet(a);
        needNet(b);
        if (nearPairs.size() == MOST_NEAR_PAIRS) {
            throw new IllegalStateException("no room for a near pair");
        }
        if (circuit.oneReachesTheOther(a, b)) {
            throw new IllegalArgumentException("one net reaches the other");
        }
        told = false;
        return nearPairs.findOrAdd(a, b);
    }

    public long shows(int kind, int which, int output) throws IndexOutOfBoundsException {
        if (!diagnosis.hasFault(kind, which)) {
            throw new IndexOutOfBoundsException("no such fault");
        }
        needOutput(output);
        return diagnosis.shownBy(kind, which, output);
    }

    public int run() {
        diagnosis.find();
        told = true;
        return diagnosis.suspects().size();
    }

    public int suspect(int k, int what) throws IndexOutOfBoundsException, IllegalStateException {
        if (what < 0 || what > 6) {
            throw new IndexOutOfBoundsException("of a suspect there is 0 to 6");
        }
        needTold();
        if (k < 0 || k >= diagnosis.suspects().size()) {
            throw new IndexOutOfBoundsException("no such suspect");
        }
        return ofSuspect(k, what);
    }

    public int pair(int what) throws IndexOutOfBoundsException, IllegalStateException {
        if (what < 0 || what > 5) {
            throw new IndexOutOfBoundsException("of the best pair there is 0 to 5");
        }
        needTold();
        return ofBestPair(what);
    }

    public int join() throws IllegalStateException {
        needTold();
        int givers = diagnosis.suspects().withLeastSum();
        shares.countChip();
        if (givers > 0 && givers <= MOST_GIVERS) {
            giveShares(givers, GIVEN_BY_A_CHIP / givers);
        }
        return givers;
    }

    public int share(int net) throws IndexOutOfBoundsException {
        needNet(net);
        return shares.of(net);
    }

    public void chain(int n) throws IllegalArgumentException {
        if (n < 1 || n > MOST_CELLS) {
            throw new IllegalArgumentException("cells are 1 to 64");
        }
        cells.begin(n);
    }

    public int caught(long should, long came) throws IllegalStateException {
        needChain();
        if (cells.rows() == MOST_CHAIN_ROWS) {
            throw new IllegalStateException("no room for a row of the chain");
        }
        return cells.addRow(should, came);
    }

    public int span(int v, int end) throws IndexOutOfBoundsException, IllegalStateException {
        if (v < 0 || v > 1 || end < 0 || end > 1) {
            throw new IndexOutOfBoundsException("v and end are 0 or 1");
        }
        needChain();
        return end == 0 ? cells.leastStuckAt(v) : cells.greatestStuckAt(v);
    }

    public int shape(int net, int x0, int y0, int x1, int y1)
            throws IndexOutOfBoundsException, IllegalStateException, IllegalArgumentException {
        needNet(net);
        if (shapes.size() == MOST_SHAPES) {
            throw new IllegalStateException("no room for a shape");
        }
        if (!isStretch(x0, x1) || !isStretch(y0, y1)) {
            throw new IllegalArgumentException("no such rectangle");
        }
        return shapes.add(net, x0, y0, x1, y1);
    }

    public int area(int net, int g) throws IndexOutOfBoundsException, IllegalArgumentException {
        needNet(net);
        needGrowth(g);
        return shapes.coveredByEither(net, net, g);
    }

    public int common(int a, int b, int g) throws IndexOutOfBoundsException, IllegalArgumentException {
        needNet(a);
        needNet(b);
        needGrowth(g);
        return shapes.coveredByBoth(a, b, g);
    }

    public int count(int what) throws IndexOutOfBoundsException {
        switch (what) {
            case 0:
                return circuit.nets();
            case 1:
                return circuit.inputs();
            case 2:
                return outputs.size();
            case 3:
                return nearPairs.size();
            case 4:
                return told ? diagnosis.suspects().size() : 0;
            case 5:
                return shapes.size();
            case 6:
                return circuit.patternCount();
            case 7:
                return cells.rows();
            case 8:
                return shares.chips();
            default:
                throw new IndexOutOfBoundsException("there is 0 to 8 to count");
        }
    }

    public void clear() {
        circuit.forget();
        outputs.forget();
        nearPairs.forget();
        shares.forget();
        cells.forget();
        shapes.forget();
        told = false;
    }

    private void needNet(int net) {
        if (!circuit.has(net)) {
            throw new IndexOutOfBoundsException("no such net");
        }
    }

    private void needOutput(int output) {
        if (output < 0 || output >= outputs.size()) {
            throw new IndexOutOfBoundsException("no such output");
        }
    }

    private void needTold() {
        if (!told) {
            throw new IllegalStateException("no suspects are told");
        }
    }

    private void needChain() {
        if (!cells.begun()) {
            throw new IllegalStateException("there is no chain");
        }
    }

    private static void needGrowth(int g) {
        if (g < 0 || g > MOST_GROWTH) {
            throw new IllegalArgumentException("shapes grow by 0 to 100");
        }
    }

    private static boolean isStretch(int from, int to) {
        return from >= 0 && from < to && to <= MOST_COORDINATE;
    }

    private int ofSuspect(int k, int what) {
        Suspects suspects = diagnosis.suspects();
        switch (what) {
            case 0:
                return suspects.kind(k);
            case 1:
                return diagnosis.firstNet(k);
            case 2:
                return diagnosis.secondNet(k);
            case 3:
                return suspects.sum(k);
            case 4:
                return suspects.explained(k);
            case 5:
                return suspects.missed(k);
            default:
                return suspects.wrong(k);
        }
    }

    private int ofBestPair(int what) {
        BestPair best = diagnosis.bestPair();
        switch (what) {
            case 0:
                return best.first();
            case 1:
                return best.second();
            case 2:
                return best.tally().sum();
            case 3:
                return best.tally().explained();
            case 4:
                return best.tally().missed();
            default:
                return best.tally().wrong();
        }
    }

    private void giveShares(int givers, int each) {
        for (int k = 0; k < givers; k++) {
            shares.give(diagnosis.firstNet(k), each);
            if (diagnosis.secondNet(k) != NONE) {
                shares.give(diagnosis.secondNet(k), each);
            }
        }
    }

    /** The nets with their rows without a fault, always up to date, and with those under the last fault tried. */
    private static final class Circuit {
        private final int[] kinds = new int[MOST_NETS];
        private final int[] firsts = new int[MOST_NETS];
        private final int[] seconds = new int[MOST_NETS];
        private final long[] goodRows = new long[MOST_NETS];
        private final long[] faultyRows = new long[MOST_NETS];
        private final boolean[] reached = new boolean[MOST_NETS];
        private int nets;
        private int inputs;
        private int patterns;

        int nets() {
            return nets;
        }

        int inputs() {
            return inputs;
        }

        int patternCount() {
            return patterns;
        }

        boolean has(int net) {
            return net >= 0 && net < nets;
        }

        boolean hasInput(int net) {
            return has(net) && kinds[net] == INPUT;
        }

        int addInput() {
            kinds[nets] = INPUT;
            goodRows[nets] = 0L;
            inputs++;
            nets++;
            return nets - 1;
        }

        int addGate(int kind, int a, int b) {
            kinds[nets] = kind;
            firsts[nets] = a;
            seconds[nets] = b;
            goodRows[nets] = gateRow(nets, goodRows);
            nets++;
            return nets - 1;
        }

        int putPatterns(int n) {
            int before = patterns;
            patterns = n;
            return before;
        }

        long putRow(int net, long row) {
            long before = goodRows[net];
            goodRows[net] = row;
            for (int later = net + 1; later < nets; later++) {
                if (kinds[later] != INPUT) {
                    goodRows[later] = gateRow(later, goodRows);
                }
            }
            return before;
        }

        long goodRow(int net) {
            return goodRows[net] & counted();
        }

        /** The bits of the patterns that there are: rows are kept whole, because more patterns may come. */
        long counted() {
            return patterns == 0 ? 0L : -1L >>> (MOST_PATTERNS - patterns);
        }

        /** Gates take nets before them alone, so only the lower net can reach the higher one. */
        boolean oneReachesTheOther(int a, int b) {
            int low = Math.min(a, b);
            int high = Math.max(a, b);
            reached[low] = true;
            for (int net = low + 1; net <= high; net++) {
                reached[net] = kinds[net] != INPUT
                        && (isReached(firsts[net], low) || isReached(seconds[net], low));
            }
            return reached[high];
        }

        private boolean isReached(int net, int low) {
            return net >= low && reached[net];
        }

        /** Tries a fault that holds two nets (or twice the same one) at rows of its own. */
        void hold(int a, long rowOfA, int b, long rowOfB) {
            System.arraycopy(goodRows, 0, faultyRows, 0, nets);
            for (int net = Math.min(a, b); net < nets; net++) {
                if (net == a) {
                    faultyRows[net] = rowOfA;
                } else if (net == b) {
                    faultyRows[net] = rowOfB;
                } else if (kinds[net] != INPUT) {
                    faultyRows[net] = gateRow(net, faultyRows);
                }
            }
        }

        void holdStuck(int a, int kindOfA, int b, int kindOfB) {
            hold(a, stuckRow(kindOfA), b, stuckRow(kindOfB));
        }

        /** Neither net reaches the other, so the rows that both had without the fault are the good ones. */
        void holdJoined(int a, int b, int kind) {
            long both = kind == JOINED_BY_AND ? goodRows[a] & goodRows[b] : goodRows[a] | goodRows[b];
            hold(a, both, b, both);
        }

        /** The patterns in which a net is another one under the last fault tried. */
        long changed(int net) {
            return (goodRows[net] ^ faultyRows[net]) & counted();
        }

        private static long stuckRow(int kind) {
            return kind == STUCK_AT_0 ? 0L : -1L;
        }

        private long gateRow(int net, long[] rows) {
            long a = rows[firsts[net]];
            long b = rows[seconds[net]];
            switch (kinds[net]) {
                case AND:
                    return a & b;
                case OR:
                    return a | b;
                case XOR:
                    return a ^ b;
                case NOT_AND:
                    return ~(a & b);
                case NOT_OR:
                    return ~(a | b);
                case NOT:
                    return ~a;
                default:
                    return a;
            }
        }

        void forget() {
            nets = 0;
            inputs = 0;
            patterns = 0;
        }
    }

    /** The outputs and their fails, as they were put. */
    private static final class Outputs {
        private final int[] nets = new int[MOST_OUTPUTS];
        private final long[] fails = new long[MOST_OUTPUTS];
        private int size;

        int size() {
            return size;
        }

        int net(int output) {
            return nets[output];
        }

        long fails(int output) {
            return fails[output];
        }

        int add(int net) {
            nets[size] = net;
            fails[size] = 0L;
            size++;
            return size - 1;
        }

        long putFails(int output, long row) {
            long before = fails[output];
            fails[output] = row;
            return before;
        }

        void forget() {
            size = 0;
        }
    }

    /** Pairs of near nets; each keeps the order in which its nets were put first. */
    private static final class NearPairs {
        private final int[] firsts = new int[MOST_NEAR_PAIRS];
        private final int[] seconds = new int[MOST_NEAR_PAIRS];
        private int size;

        int size() {
            return size;
        }

        int first(int number) {
            return firsts[number];
        }

        int second(int number) {
            return seconds[number];
        }

        int findOrAdd(int a, int b) {
            for (int number = 0; number < size; number++) {
                if (isOf(number, a, b) || isOf(number, b, a)) {
                    return number;
                }
            }
            firsts[size] = a;
            seconds[size] = b;
            size++;
            return size - 1;
        }

        private boolean isOf(int number, int a, int b) {
            return firsts[number] == a && seconds[number] == b;
        }

        void forget() {
            size = 0;
        }
    }

    /** How what is shown agrees with the fails, over all outputs. */
    private static final class Tally {
        private int explained;
        private int missed;
        private int wrong;

        int explained() {
            return explained;
        }

        int missed() {
            return missed;
        }

        int wrong() {
            return wrong;
        }

        int sum() {
            return 2 * missed + wrong;
        }

        void reset() {
            explained = 0;
            missed = 0;
            wrong = 0;
        }

        void add(long shown, long fails) {
            explained += Long.bitCount(shown & fails);
            missed += Long.bitCount(fails & ~shown);
            wrong += Long.bitCount(shown & ~fails);
        }

        void copy(Tally other) {
            explained = other.explained;
            missed = other.missed;
            wrong = other.wrong;
        }
    }

    /** Suspects in the order of their sums; those of the same sum in the order in which they were added. */
    private static final class Suspects {
        private final int[] kinds = new int[MOST_SUSPECTS];
        private final int[] numbers = new int[MOST_SUSPECTS];
        private final int[] explained = new int[MOST_SUSPECTS];
        private final int[] missed = new int[MOST_SUSPECTS];
        private final int[] wrong = new int[MOST_SUSPECTS];
        private final int[] order = new int[MOST_SUSPECTS];
        private int size;

        int size() {
            return size;
        }

        int kind(int k) {
            return kinds[order[k]];
        }

        /** The net that is stuck, or the number of the near pair. */
        int number(int k) {
            return numbers[order[k]];
        }

        int explained(int k) {
            return explained[order[k]];
        }

        int missed(int k) {
            return missed[order[k]];
        }

        int wrong(int k) {
            return wrong[order[k]];
        }

        int sum(int k) {
            return 2 * missed(k) + wrong(k);
        }

        boolean isStuck(int k) {
            return kind(k) <= STUCK_AT_1;
        }

        void add(int kind, int number, Tally tally) {
            kinds[size] = kind;
            numbers[size] = number;
            explained[size] = tally.explained();
            missed[size] = tally.missed();
            wrong[size] = tally.wrong();
            int place = size;
            while (place > 0 && sum(place - 1) > tally.sum()) {
                order[place] = order[place - 1];
                place--;
            }
            order[place] = size;
            size++;
        }

        int withLeastSum() {
            int k = 0;
            while (k < size && sum(k) == sum(0)) {
                k++;
            }
            return k;
        }

        void reset() {
            size = 0;
        }
    }

    /** The best one of the pairs offered so far; of the same sum the one that was offered first. */
    private static final class BestPair {
        private final Tally tally = new Tally();
        private int first = NONE;
        private int second = NONE;

        int first() {
            return first;
        }

        int second() {
            return second;
        }

        Tally tally() {
            return tally;
        }

        void offer(int i, int j, Tally other) {
            if (first == NONE || other.sum() < tally.sum()) {
                first = i;
                second = j;
                tally.copy(other);
            }
        }

        void reset() {
            first = NONE;
            second = NONE;
            tally.reset();
        }
    }

    /** Tries the faults of a circuit and compares what they show with the fails. */
    private static final class Diagnosis {
        private final Circuit circuit;
        private final Outputs outputs;
        private final NearPairs nearPairs;
        private final Suspects suspects = new Suspects();
        private final BestPair bestPair = new BestPair();
        private final Tally tally = new Tally();
        private final int[] triedInPairs = new int[TRIED_IN_PAIRS];

        Diagnosis(Circuit circuit, Outputs outputs, NearPairs nearPairs) {
            this.circuit = circuit;
            this.outputs = outputs;
            this.nearPairs = nearPairs;
        }

        Suspects suspects() {
            return suspects;
        }

        BestPair bestPair() {
            return bestPair;
        }

        int firstNet(int k) {
            int number = suspects.number(k);
            return suspects.isStuck(k) ? number : nearPairs.first(number);
        }

        int secondNet(int k) {
            return suspects.isStuck(k) ? NONE : nearPairs.second(suspects.number(k));
        }

        boolean hasFault(int kind, int number) {
            return kind >= STUCK_AT_0 && kind <= JOINED_BY_OR && number >= 0 && number < faultsOf(kind);
        }

        long shownBy(int kind, int number, int output) {
            tryFault(kind, number);
            return circuit.changed(outputs.net(output));
        }

        void find() {
            findSuspects();
            findBestPair();
        }

        /** Goes by kind, then by number: so suspects of the same sum are added in their order. */
        private void findSuspects() {
            suspects.reset();
            for (int kind = STUCK_AT_0; kind <= JOINED_BY_OR; kind++) {
                int faults = faultsOf(kind);
                for (int number = 0; number < faults; number++) {
                    tryFault(kind, number);
                    compareWithFails();
                    if (tally.explained() > 0) {
                        suspects.add(kind, number, tally);
                    }
                }
            }
        }

        private void findBestPair() {
            bestPair.reset();
            int tried = chooseForPairs();
            for (int i = 0; i < tried; i++) {
                for (int j = i + 1; j < tried; j++) {
                    offerPair(triedInPairs[i], triedInPairs[j]);
                }
            }
        }

        private int chooseForPairs() {
            int chosen = 0;
            for (int k = 0; k < suspects.size() && chosen < TRIED_IN_PAIRS; k++) {
                if (suspects.isStuck(k)) {
                    triedInPairs[chosen] = k;
                    chosen++;
                }
            }
            return chosen;
        }

        private void offerPair(int i, int j) {
            int a = suspects.number(i);
            int b = suspects.number(j);
            if (a == b) {
                return;
            }
            circuit.holdStuck(a, suspects.kind(i), b, suspects.kind(j));
            compareWithFails();
            if (tally.explained() > 0) {
                bestPair.offer(i, j, tally);
            }
        }

        private int faultsOf(int kind) {
            return kind <= STUCK_AT_1 ? circuit.nets() : nearPairs.size();
        }

        private void tryFault(int kind, int number) {
            if (kind <= STUCK_AT_1) {
                circuit.holdStuck(number, kind, number, kind);
            } else {
                circuit.holdJoined(nearPairs.first(number), nearPairs.second(number), kind);
            }
        }

        private void compareWithFails() {
            long counted = circuit.counted();
            tally.reset();
            for (int output = 0; output < outputs.size(); output++) {
                tally.add(circuit.changed(outputs.net(output)), outputs.fails(output) & counted);
            }
        }
    }

    /** What the chips joined so far gave to each net. */
    private static final class Shares {
        private final int[] given = new int[MOST_NETS];
        private int chips;

        int of(int net) {
            return given[net];
        }

        int chips() {
            return chips;
        }

        void countChip() {
            chips++;
        }

        void give(int net, int amount) {
            given[net] += amount;
        }

        void forget() {
            Arrays.fill(given, 0);
            chips = 0;
        }
    }

    /** A shift chain and the rows caught in it; without cells there is no chain. */
    private static final class Chain {
        private final long[] should = new long[MOST_CHAIN_ROWS];
        private final long[] came = new long[MOST_CHAIN_ROWS];
        private int size;
        private int rows;

        boolean begun() {
            return size > 0;
        }

        int rows() {
            return rows;
        }

        void begin(int n) {
            size = n;
            rows = 0;
        }

        int addRow(long shouldHave, long cameOut) {
            should[rows] = shouldHave;
            came[rows] = cameOut;
            rows++;
            return rows;
        }

        int leastStuckAt(int v) {
            for (int cell = 0; cell < size; cell++) {
                if (mayBeStuck(cell, v)) {
                    return cell;
                }
            }
            return NONE;
        }

        int greatestStuckAt(int v) {
            for (int cell = size - 1; cell >= 0; cell--) {
                if (mayBeStuck(cell, v)) {
                    return cell;
                }
            }
            return NONE;
        }

        private boolean mayBeStuck(int cell, int v) {
            long upToCell = upTo(cell);
            long all = upTo(size - 1);
            long stuck = v == 0 ? 0L : upToCell;
            for (int row = 0; row < rows; row++) {
                long expected = stuck | (should[row] & ~upToCell);
                if (((expected ^ came[row]) & all) != 0L) {
                    return false;
                }
            }
            return true;
        }

        private static long upTo(int cell) {
            return -1L >>> (MOST_CELLS - 1 - cell);
        }

        void forget() {
            size = 0;
            rows = 0;
        }
    }

    /** Rectangles of nets. Areas are summed in strips between neighbouring edges, from left to right. */
    private static final class Shapes {
        private final int[] nets = new int[MOST_SHAPES];
        private final int[] lefts = new int[MOST_SHAPES];
        private final int[] bottoms = new int[MOST_SHAPES];
        private final int[] rights = new int[MOST_SHAPES];
        private final int[] tops = new int[MOST_SHAPES];
        private final int[] chosenByBottom = new int[MOST_SHAPES];
        private final int[] edges = new int[2 * MOST_SHAPES];
        private int size;
        private int chosen;

        int size() {
            return size;
        }

        int add(int net, int x0, int y0, int x1, int y1) {
            nets[size] = net;
            lefts[size] = x0;
            bottoms[size] = y0;
            rights[size] = x1;
            tops[size] = y1;
            size++;
            return shapesOf(net);
        }

        private int shapesOf(int net) {
            int found = 0;
            for (int shape = 0; shape < size; shape++) {
                if (nets[shape] == net) {
                    found++;
                }
            }
            return found;
        }

        /** What either covers counts what both cover once, and the two alone count it twice. */
        int coveredByBoth(int a, int b, int g) {
            return coveredByEither(a, a, g) + coveredByEither(b, b, g) - coveredByEither(a, b, g);
        }

        int coveredByEither(int a, int b, int g) {
            choose(a, b, g);
            int covered = 0;
            for (int k = 1; k < 2 * chosen; k++) {
                int width = edges[k] - edges[k - 1];
                if (width > 0) {
                    covered += width * heightAt(edges[k - 1], g);
                }
            }
            return covered;
        }

        private void choose(int a, int b, int g) {
            chosen = 0;
            for (int shape = 0; shape < size; shape++) {
                if (nets[shape] == a || nets[shape] == b) {
                    putEdge(lefts[shape] - g, 2 * chosen);
                    putEdge(rights[shape] + g, 2 * chosen + 1);
                    putByBottom(shape);
                    chosen++;
                }
            }
        }

        private void putEdge(int x, int edgesBefore) {
            int place = edgesBefore;
            while (place > 0 && edges[place - 1] > x) {
                edges[place] = edges[place - 1];
                place--;
            }
            edges[place] = x;
        }

        private void putByBottom(int shape) {
            int place = chosen;
            while (place > 0 && bottoms[chosenByBottom[place - 1]] > bottoms[shape]) {
                chosenByBottom[place] = chosenByBottom[place - 1];
                place--;
            }
            chosenByBottom[place] = shape;
        }

        /** How much the chosen shapes cover of the strip that begins at x; lower ones come first, so one pass does. */
        private int heightAt(int x, int g) {
            int height = 0;
            int countedTo = -g;
            for (int k = 0; k < chosen; k++) {
                int shape = chosenByBottom[k];
                if (lefts[shape] - g <= x && x < rights[shape] + g) {
                    int from = Math.max(bottoms[shape] - g, countedTo);
                    int to = Math.max(tops[shape] + g, from);
                    height += to - from;
                    countedTo = to;
                }
            }
            return height;
        }

        void forget() {
            size = 0;
        }
    }
}
