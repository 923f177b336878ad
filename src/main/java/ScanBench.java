import java.util.Arrays;

/**
 * A bench for circuits with cells that remember, their chains, the controller
 * that leads them, and tests that show lines that stick.
 */
public final class ScanBench {
    public static final int NONE = -1, UNKNOWN = -1001, OUTSIDE = -1002, NOT = -1003, FULL = -1004;

    private static final int UNSURE = 2;
    private static final int MAX_LINES = 80, MAX_INPUTS = 8, MAX_CELLS = 20, MAX_OUTPUTS = 8, MAX_TESTS = 20;
    private static final int DOMAINS = 3, CHAINS = 3, ALL_DOMAINS = 7;
    private static final int MAX_COMBINED = 10;
    private static final int KIND_INPUT = 0, KIND_GATE = 1, KIND_CELL = 2;

    private final Circuit circuit;
    private final Chains chains;
    private final Controller live;
    private final Tests tests;
    private final Driver driver;
    private final Trial trial;
    private final Sight latest;
    private final int[] covered;

    public ScanBench() {
        circuit = new Circuit();
        chains = new Chains();
        live = new Controller(new Board(circuit, chains));
        tests = new Tests();
        driver = new Driver(chains);
        trial = new Trial(new Controller(new Board(circuit, chains)), driver, tests);
        latest = new Sight();
        covered = new int[2 * MAX_LINES];
    }

    // ---- circuits

    public int input() {
        if (circuit.lines >= MAX_LINES || circuit.inputs >= MAX_INPUTS) {
            return FULL;
        }
        return circuit.addInput();
    }

    public int gate(int op, int a, int b, int c) {
        int needed = Circuit.sourcesOf(op);
        if (needed >= 1 && !circuit.hasLine(a)
                || needed >= 2 && !circuit.hasLine(b)
                || needed >= 3 && !circuit.hasLine(c)) {
            return UNKNOWN;
        }
        if (needed == 0) {
            return OUTSIDE;
        }
        if (circuit.lines >= MAX_LINES) {
            return FULL;
        }
        return circuit.addGate(op, a, b, c);
    }

    public int cell(int domain) {
        if (domain < 0 || domain >= DOMAINS) {
            return OUTSIDE;
        }
        if (circuit.lines >= MAX_LINES || circuit.cells >= MAX_CELLS) {
            return FULL;
        }
        return circuit.addCell(domain);
    }

    public int source(int c, int l) {
        if (!circuit.hasCell(c) || !circuit.hasLine(l)) {
            return UNKNOWN;
        }
        int was = circuit.cellSource[c];
        circuit.cellSource[c] = l;
        return was;
    }

    public int output(int l) {
        if (!circuit.hasLine(l)) {
            return UNKNOWN;
        }
        if (circuit.isOutput[l]) {
            return NOT;
        }
        if (circuit.outputs >= MAX_OUTPUTS) {
            return FULL;
        }
        return circuit.addOutput(l);
    }

    public int count(int what) {
        switch (what) {
            case 0: return circuit.lines;
            case 1: return circuit.inputs;
            case 2: return circuit.cells;
            case 3: return circuit.outputs;
            case 4: return tests.size;
            case 5: return chains.cellsInAll();
            case 6: return live.ticks;
            default: return OUTSIDE;
        }
    }

    public int line(int l, int what) {
        if (!circuit.hasLine(l)) {
            return UNKNOWN;
        }
        switch (what) {
            case 0: return circuit.kind[l];
            case 1: return circuit.detail[l];
            case 2: return live.board.valueOf(l);
            default: return OUTSIDE;
        }
    }

    public int set(int i, int v) {
        if (i < 0 || i >= circuit.inputs) {
            return UNKNOWN;
        }
        if (!isValue(v)) {
            return OUTSIDE;
        }
        int was = live.board.given[i];
        live.board.given[i] = v;
        return was;
    }

    public int hold(int c, int v) {
        if (!circuit.hasCell(c)) {
            return UNKNOWN;
        }
        if (!isValue(v)) {
            return OUTSIDE;
        }
        int was = live.board.held[c];
        live.board.held[c] = v;
        return was;
    }

    public int clock(int domains) {
        if (domains < 0 || domains > ALL_DOMAINS) {
            return OUTSIDE;
        }
        return live.board.clockCells(domains);
    }

    public int stick(int l, int v) {
        if (l == NONE) {
            live.board.unstick();
            return 1;
        }
        if (!circuit.hasLine(l)) {
            return UNKNOWN;
        }
        if (!isBit(v)) {
            return OUTSIDE;
        }
        live.board.stickAt(l, v);
        return 1;
    }

    // ---- chains

    public int chain(int k, int c, int i, boolean turned) {
        if (!Chains.hasChain(k) || !circuit.hasCell(c)) {
            return UNKNOWN;
        }
        if (i < 0 || i > chains.size[k]) {
            return OUTSIDE;
        }
        if (chains.chainOf[c] != NONE) {
            return NOT;
        }
        return chains.insert(k, c, i, turned);
    }

    public int unchain(int c) {
        if (!circuit.hasCell(c)) {
            return UNKNOWN;
        }
        if (chains.chainOf[c] == NONE) {
            return 0;
        }
        chains.takeOut(c);
        return 1;
    }

    public int link(int k, int i) {
        if (!Chains.hasChain(k)) {
            return UNKNOWN;
        }
        if (i < 0 || i >= chains.size[k]) {
            return NONE;
        }
        return chains.cellAt[k][i];
    }

    public int stitch() {
        int stitched = 0;
        for (int c = 0; c < circuit.cells; c++) {
            if (chains.chainOf[c] == NONE) {
                int k = circuit.cellDomain[c];
                chains.insert(k, c, chains.size[k], false);
                stitched++;
            }
        }
        return stitched;
    }

    public int shift(int k, int v) {
        if (!Chains.hasChain(k)) {
            return UNKNOWN;
        }
        if (!isValue(v)) {
            return OUTSIDE;
        }
        return live.board.shiftChain(k, v);
    }

    // ---- the controller

    public int tag(int v) {
        int was = live.tag;
        live.tag = v & Controller.TAG_MASK;
        return was;
    }

    public int tick(int lead, int in) {
        if (!isBit(lead) || !isBit(in)) {
            return OUTSIDE;
        }
        return live.step(lead, in);
    }

    public int state(int what) {
        switch (what) {
            case 0: return live.state;
            case 1: return live.order;
            case 2: return live.row;
            case 3: return live.aside;
            case 4: return live.tagRow;
            default: return OUTSIDE;
        }
    }

    // ---- tests

    public int test(int inputs, int cells) {
        if (inputs >>> circuit.inputs != 0 || cells >>> circuit.cells != 0) {
            return OUTSIDE;
        }
        if (tests.size >= MAX_TESTS) {
            return FULL;
        }
        return tests.add(inputs, cells);
    }

    public int drive(int t) {
        if (!tests.has(t)) {
            return UNKNOWN;
        }
        return driver.run(live, tests.inputBits[t], tests.cellBits[t], latest);
    }

    public int seen(int which, int i) {
        if (which == 0) {
            return i >= 0 && i < latest.outputs ? latest.output[i] : NONE;
        }
        if (which == 1) {
            return i >= 0 && i < latest.outs ? latest.out[i] : NONE;
        }
        return OUTSIDE;
    }

    public int shows(int t, int l, int v) {
        if (!tests.has(t) || !circuit.hasLine(l)) {
            return UNKNOWN;
        }
        if (!isBit(v)) {
            return OUTSIDE;
        }
        trial.startWith(t);
        return trial.reveals(l, v) ? 1 : 0;
    }

    public int shownBy(int l, int v) {
        if (!circuit.hasLine(l)) {
            return UNKNOWN;
        }
        if (!isBit(v)) {
            return OUTSIDE;
        }
        for (int t = 0; t < tests.size; t++) {
            trial.startWith(t);
            if (trial.reveals(l, v)) {
                return t;
            }
        }
        return NONE;
    }

    public int covers() {
        Arrays.fill(covered, 0);
        int sum = 0;
        for (int t = 0; t < tests.size; t++) {
            trial.startWith(t);
            for (int f = 0; f < 2 * circuit.lines; f++) {
                if (covered[f] == 0 && trial.reveals(f >> 1, f & 1)) {
                    covered[f] = 1;
                    sum++;
                }
            }
        }
        return sum;
    }

    public int same(int l, int m) {
        if (!circuit.hasLine(l) || !circuit.hasLine(m)) {
            return UNKNOWN;
        }
        if (circuit.inputs + circuit.cells > MAX_COMBINED) {
            return NOT;
        }
        return trial.countAlike(l, m);
    }

    private static boolean isBit(int v) {
        return v == 0 || v == 1;
    }

    private static boolean isValue(int v) {
        return v >= 0 && v <= UNSURE;
    }

    /** What there is and how it is wired; it knows no VALUES. */
    private static final class Circuit {
        static final int AND = 0, OR = 1, XOR = 2, INVERT = 3, PICK = 4, NAND = 5, NOR = 6;

        int lines, inputs, cells, outputs;
        final int[] kind = new int[MAX_LINES];
        final int[] detail = new int[MAX_LINES];
        final int[] first = new int[MAX_LINES];
        final int[] second = new int[MAX_LINES];
        final int[] third = new int[MAX_LINES];
        final boolean[] isOutput = new boolean[MAX_LINES];
        final int[] cellLine = new int[MAX_CELLS];
        final int[] cellDomain = new int[MAX_CELLS];
        final int[] cellSource = new int[MAX_CELLS];
        final int[] outputLine = new int[MAX_OUTPUTS];

        /** 0 tells that there is no such OP. */
        static int sourcesOf(int op) {
            if (op < AND || op > NOR) {
                return 0;
            }
            if (op == INVERT) {
                return 1;
            }
            return op == PICK ? 3 : 2;
        }

        boolean hasLine(int l) {
            return l >= 0 && l < lines;
        }

        boolean hasCell(int c) {
            return c >= 0 && c < cells;
        }

        int addInput() {
            int l = addLine(KIND_INPUT, inputs);
            inputs++;
            return l;
        }

        int addGate(int op, int a, int b, int c) {
            int l = addLine(KIND_GATE, op);
            first[l] = a;
            second[l] = b;
            third[l] = c;
            return l;
        }

        int addCell(int domain) {
            int l = addLine(KIND_CELL, cells);
            cellLine[cells] = l;
            cellDomain[cells] = domain;
            cellSource[cells] = l;
            cells++;
            return l;
        }

        int addOutput(int l) {
            isOutput[l] = true;
            outputLine[outputs] = l;
            outputs++;
            return outputs;
        }

        private int addLine(int itsKind, int itsDetail) {
            int l = lines;
            kind[l] = itsKind;
            detail[l] = itsDetail;
            lines++;
            return l;
        }
    }

    /** Which CELLS stand in which CHAIN, and which of them are TURNED. */
    private static final class Chains {
        final int[][] cellAt = new int[CHAINS][MAX_CELLS];
        final int[] size = new int[CHAINS];
        final int[] chainOf = new int[MAX_CELLS];
        final boolean[] isTurned = new boolean[MAX_CELLS];

        Chains() {
            Arrays.fill(chainOf, NONE);
        }

        static boolean hasChain(int k) {
            return k >= 0 && k < CHAINS;
        }

        int cellsInAll() {
            int sum = 0;
            for (int k = 0; k < CHAINS; k++) {
                sum += size[k];
            }
            return sum;
        }

        int insert(int k, int c, int place, boolean turned) {
            int[] places = cellAt[k];
            for (int i = size[k]; i > place; i--) {
                places[i] = places[i - 1];
            }
            places[place] = c;
            chainOf[c] = k;
            isTurned[c] = turned;
            size[k]++;
            return size[k];
        }

        void takeOut(int c) {
            int k = chainOf[c];
            int[] places = cellAt[k];
            int kept = 0;
            for (int i = 0; i < size[k]; i++) {
                if (places[i] != c) {
                    places[kept] = places[i];
                    kept++;
                }
            }
            size[k] = kept;
            chainOf[c] = NONE;
        }
    }

    /** The VALUES on one copy of the circuit: a trial has its own, so it changes nothing. */
    private static final class Board {
        // Rows by the first VALUE, 0 to 2, places in them by the second one.
        private static final int[] AND_OF = {0, 0, 0, 0, 1, 2, 0, 2, 2};
        private static final int[] OR_OF = {0, 1, 2, 1, 1, 1, 2, 1, 2};
        private static final int[] XOR_OF = {0, 1, 2, 1, 0, 2, 2, 2, 2};
        private static final int[] INVERTED = {1, 0, 2};

        final Circuit circuit;
        final Chains chains;
        final int[] given = new int[MAX_INPUTS];
        final int[] held = new int[MAX_CELLS];
        final int[] value = new int[MAX_LINES];
        int stuckLine = NONE;
        int stuckValue;

        Board(Circuit circuit, Chains chains) {
            this.circuit = circuit;
            this.chains = chains;
            Arrays.fill(held, UNSURE);
        }

        void forgetCells() {
            Arrays.fill(held, UNSURE);
        }

        void unstick() {
            stuckLine = NONE;
        }

        void stickAt(int l, int v) {
            stuckLine = l;
            stuckValue = v;
        }

        void setInputs(int bits) {
            for (int i = 0; i < circuit.inputs; i++) {
                given[i] = bits >> i & 1;
            }
        }

        void setCells(int bits) {
            for (int c = 0; c < circuit.cells; c++) {
                held[c] = bits >> c & 1;
            }
        }

        int valueOf(int l) {
            settle(l + 1);
            return value[l];
        }

        /** SOURCES of a GATE come ahead of it, so one pass in the order of LINES is enough. */
        void settle(int upTo) {
            for (int l = 0; l < upTo; l++) {
                int detail = circuit.detail[l];
                if (l == stuckLine) {
                    value[l] = stuckValue;
                } else if (circuit.kind[l] == KIND_INPUT) {
                    value[l] = given[detail];
                } else if (circuit.kind[l] == KIND_CELL) {
                    value[l] = held[detail];
                } else {
                    value[l] = gateValue(l, detail);
                }
            }
        }

        int clockCells(int domains) {
            settle(circuit.lines);
            int clocked = 0;
            for (int c = 0; c < circuit.cells; c++) {
                if ((domains >> circuit.cellDomain[c] & 1) == 1) {
                    held[c] = value[circuit.cellSource[c]];
                    clocked++;
                }
            }
            return clocked;
        }

        int shiftChain(int k, int v) {
            int[] places = chains.cellAt[k];
            int coming = v;
            for (int i = 0; i < chains.size[k]; i++) {
                int c = places[i];
                int was = circuit.cellLine[c] == stuckLine ? stuckValue : held[c];
                held[c] = chains.isTurned[c] ? INVERTED[coming] : coming;
                coming = was;
            }
            return coming;
        }

        /** A SOURCE that the OP does not have may be no LINE at all, so each OP reads only its own. */
        private int gateValue(int l, int op) {
            int a = value[circuit.first[l]];
            if (op == Circuit.INVERT) {
                return INVERTED[a];
            }
            int b = value[circuit.second[l]];
            switch (op) {
                case Circuit.AND: return AND_OF[3 * a + b];
                case Circuit.OR: return OR_OF[3 * a + b];
                case Circuit.XOR: return XOR_OF[3 * a + b];
                case Circuit.NAND: return INVERTED[AND_OF[3 * a + b]];
                case Circuit.NOR: return INVERTED[OR_OF[3 * a + b]];
                default: break;
            }
            int c = value[circuit.third[l]];
            if (a == UNSURE) {
                return b == c ? b : UNSURE;
            }
            return a == 0 ? b : c;
        }
    }

    /** THE CONTROLLER of one board. */
    private static final class Controller {
        static final int TAG_MASK = 0xFFFF;

        private static final int REST = 0, CATCH = 3, SHIFT = 4, CATCH_ORDER = 10, SHIFT_ORDER = 11, TAKE_ORDER = 15;
        private static final int ORDER_THROUGH_ALL = 3, ORDER_TAG = 4, ORDER_DOMAIN_0 = 5;
        private static final int[] CLOCKED_BY_ORDER = {7, 7, 7, 7, 0, 1, 0, 0};
        private static final int TAG_TOP = 15, ROW_TOP = 2;
        private static final int[] NEXT_BY_0 = {1, 1, 3, 4, 4, 6, 6, 4, 1, 10, 11, 11, 13, 13, 11, 1};
        private static final int[] NEXT_BY_1 = {0, 2, 9, 5, 5, 8, 7, 8, 2, 0, 12, 12, 15, 14, 15, 2};

        final Board board;
        int state, order, row, aside, tag, tagRow, ticks;

        Controller(Board board) {
            this.board = board;
            order = ORDER_TAG;
        }

        void restart() {
            board.forgetCells();
            state = REST;
            order = ORDER_TAG;
        }

        int step(int lead, int in) {
            int out = NONE;
            switch (state) {
                case REST:
                    order = ORDER_TAG;
                    break;
                case CATCH:
                    board.clockCells(CLOCKED_BY_ORDER[order]);
                    refillRows();
                    break;
                case SHIFT:
                    out = shiftByOrder(in);
                    break;
                case CATCH_ORDER:
                    row = 1;
                    break;
                case SHIFT_ORDER:
                    out = shiftRow(in);
                    break;
                case TAKE_ORDER:
                    order = row;
                    break;
                default:
                    break;
            }
            state = lead == 0 ? NEXT_BY_0[state] : NEXT_BY_1[state];
            ticks++;
            return out;
        }

        private void refillRows() {
            if (order == ORDER_TAG) {
                tagRow = tag;
            } else if (order > ORDER_DOMAIN_0) {
                aside = 0;
            }
        }

        private int shiftByOrder(int in) {
            if (order < ORDER_THROUGH_ALL) {
                return board.shiftChain(order, in);
            }
            if (order == ORDER_THROUGH_ALL) {
                return board.shiftChain(2, board.shiftChain(1, board.shiftChain(0, in)));
            }
            return order == ORDER_TAG ? shiftTagRow(in) : swapAside(in);
        }

        private int shiftRow(int in) {
            int out = row & 1;
            row = row >> 1 | in << ROW_TOP;
            return out;
        }

        private int shiftTagRow(int in) {
            int out = tagRow & 1;
            tagRow = tagRow >> 1 | in << TAG_TOP;
            return out;
        }

        private int swapAside(int in) {
            int out = aside;
            aside = in;
            return out;
        }
    }

    /** The bits of the TESTS. */
    private static final class Tests {
        final int[] inputBits = new int[MAX_TESTS];
        final int[] cellBits = new int[MAX_TESTS];
        int size;

        boolean has(int t) {
            return t >= 0 && t < size;
        }

        int add(int inputs, int cells) {
            int t = size;
            inputBits[t] = inputs;
            cellBits[t] = cells;
            size++;
            return t;
        }
    }

    /** What was SEEN by one drive. */
    private static final class Sight {
        final int[] output = new int[MAX_OUTPUTS];
        final int[] out = new int[MAX_CELLS];
        int outputs, outs;

        void lookAtOutputs(Board board) {
            Circuit circuit = board.circuit;
            board.settle(circuit.lines);
            for (int i = 0; i < circuit.outputs; i++) {
                output[i] = board.value[circuit.outputLine[i]];
            }
            outputs = circuit.outputs;
        }

        boolean differsKnown(Sight other) {
            return differ(output, other.output, outputs) || differ(out, other.out, outs);
        }

        private static boolean differ(int[] a, int[] b, int n) {
            for (int i = 0; i < n; i++) {
                if (a[i] != UNSURE && b[i] != UNSURE && a[i] != b[i]) {
                    return true;
                }
            }
            return false;
        }
    }

    /** Brings a TEST through a controller. */
    private static final class Driver {
        private static final int[] OPEN_LEADS = {1, 1, 1, 1, 1, 0, 1, 1, 0, 0, 0, 0, 1, 1, 1, 0, 0};
        private static final int[] OPEN_INS = {0, 0, 0, 0, 0, 0, 0, 0, 0, 0, 1, 1, 0, 0, 0, 0, 0};
        private static final int[] LOADED_LEADS = {1, 1, 0};

        private final Chains chains;
        private final int[] loads = new int[MAX_CELLS];

        Driver(Chains chains) {
            this.chains = chains;
        }

        /** How many TICKS it took. */
        int run(Controller controller, int inputBits, int cellBits, Sight sight) {
            int before = controller.ticks;
            int length = Math.max(1, chains.cellsInAll());
            controller.board.setInputs(inputBits);
            for (int i = 0; i < OPEN_LEADS.length; i++) {
                controller.step(OPEN_LEADS[i], OPEN_INS[i]);
            }
            planLoads(cellBits, length);
            for (int i = 0; i < length; i++) {
                controller.step(leadAt(i, length), loads[i]);
            }
            for (int i = 0; i < LOADED_LEADS.length; i++) {
                controller.step(LOADED_LEADS[i], 0);
            }
            sight.lookAtOutputs(controller.board);
            controller.step(0, 0);
            for (int i = 0; i < length; i++) {
                sight.out[i] = controller.step(leadAt(i, length), 0);
            }
            sight.outs = length;
            controller.step(1, 0);
            controller.step(0, 0);
            return controller.ticks - before;
        }

        private static int leadAt(int i, int length) {
            return i == length - 1 ? 1 : 0;
        }

        /** The first bit in goes furthest, and is turned by every TURNED CELL that it comes into. */
        private void planLoads(int cellBits, int length) {
            loads[0] = 0;
            int at = length - 1;
            int turns = 0;
            for (int k = 0; k < CHAINS; k++) {
                for (int i = 0; i < chains.size[k]; i++) {
                    int c = chains.cellAt[k][i];
                    turns ^= chains.isTurned[c] ? 1 : 0;
                    loads[at] = cellBits >> c & 1 ^ turns;
                    at--;
                }
            }
        }
    }

    /** Drives TESTS on a board of its own, without and with a LINE STUCK. */
    private static final class Trial {
        private final Controller controller;
        private final Driver driver;
        private final Tests tests;
        private final Sight sound = new Sight();
        private final Sight faulty = new Sight();
        private int inputBits, cellBits;

        Trial(Controller controller, Driver driver, Tests tests) {
            this.controller = controller;
            this.driver = driver;
            this.tests = tests;
        }

        /** The drive without a STUCK LINE is the same for all LINES, so it is done once. */
        void startWith(int t) {
            inputBits = tests.inputBits[t];
            cellBits = tests.cellBits[t];
            controller.board.unstick();
            controller.restart();
            driver.run(controller, inputBits, cellBits, sound);
        }

        boolean reveals(int l, int v) {
            controller.board.stickAt(l, v);
            controller.restart();
            driver.run(controller, inputBits, cellBits, faulty);
            return sound.differsKnown(faulty);
        }

        int countAlike(int l, int m) {
            Board board = controller.board;
            board.unstick();
            int inputs = board.circuit.inputs;
            int combinations = 1 << inputs + board.circuit.cells;
            int alike = 0;
            for (int bits = 0; bits < combinations; bits++) {
                board.setInputs(bits);
                board.setCells(bits >> inputs);
                board.settle(Math.max(l, m) + 1);
                // With all INPUTS and CELLS known, no VALUE is unknown.
                if (board.value[l] == board.value[m]) {
                    alike++;
                }
            }
            return alike;
        }
    }
}
