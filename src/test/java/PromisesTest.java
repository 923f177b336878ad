/** Each promise of the document by examples that were worked out by hand. */
public final class PromisesTest {
    private static final int NONE = -1, UNKNOWN = -1001, OUTSIDE = -1002, NOT = -1003, FULL = -1004;
    private static final int LOW = Integer.MIN_VALUE, HIGH = Integer.MAX_VALUE;

    // The LEADS that bring a new controller to each STATE.
    private static final String[] WAY = {"", "0", "01", "010", "0100", "0101", "01010", "010101", "01011", "011",
        "0110", "01100", "01101", "011010", "0110101", "011011"};

    private static int wrong = 0;

    private static void due(String call, int got, int want) {
        if (got != want) {
            wrong++;
            System.out.println(call + " answered " + got + ", due is " + want);
        }
    }

    public static void main(String[] args) {
        newObject();
        inputs();
        gates();
        gateValues();
        cells();
        sources();
        outputs();
        counts();
        lines();
        sets();
        holds();
        clocks();
        sticks();
        chains();
        unchains();
        links();
        stitches();
        shifts();
        tags();
        ticks();
        ordersCatch();
        ordersShift();
        states();
        tests();
        drives();
        drivesFromAnyState();
        drivesFromShift();
        drivesWithTurned();
        seen();
        shows();
        showsChangesNothing();
        shownBy();
        covers();
        same();
        extremes();
        System.out.println(wrong == 0 ? "PromisesTest: all answers are as due" : "PromisesTest: " + wrong + " wrong");
        if (wrong != 0) {
            System.exit(1);
        }
    }

    // ---- helpers

    private static ScanBench withInputs(int n) {
        ScanBench x = new ScanBench();
        for (int i = 0; i < n; i++) {
            x.input();
        }
        return x;
    }

    private static ScanBench withCells(int... domains) {
        ScanBench x = new ScanBench();
        for (int d : domains) {
            x.cell(d);
        }
        return x;
    }

    private static void fillLines(ScanBench x) {
        while (x.count(0) < 80) {
            x.gate(3, 0, 0, 0);
        }
    }

    private static void lead(ScanBench x, String leads) {
        for (int i = 0; i < leads.length(); i++) {
            x.tick(leads.charAt(i) - '0', 0);
        }
    }

    /** Leads the controller to STATE 1 with an ORDER. */
    private static void give(ScanBench x, int order) {
        lead(x, "11111" + "01100");
        x.tick(0, order & 1);
        x.tick(0, order >> 1 & 1);
        x.tick(1, order >> 2 & 1);
        lead(x, "10");
    }

    private static void holdAll(ScanBench x, int... values) {
        for (int c = 0; c < values.length; c++) {
            x.hold(c, values[c]);
        }
    }

    /** What CELLS hold; each is read by a hold() and put back. */
    private static void dueHeld(String when, ScanBench x, int... values) {
        for (int c = 0; c < values.length; c++) {
            int held = x.hold(c, 0);
            x.hold(c, held);
            due(when + ": CELL " + c + " holds", held, values[c]);
        }
    }

    // ---- promise 1

    private static void newObject() {
        ScanBench x = new ScanBench();
        for (int what = 0; what <= 6; what++) {
            due("new: count(" + what + ")", x.count(what), 0);
        }
        due("new: line(0, 0)", x.line(0, 0), UNKNOWN);
        for (int k = 0; k < 3; k++) {
            due("new: link(" + k + ", 0)", x.link(k, 0), NONE);
            due("new: shift(" + k + ", 1)", x.shift(k, 1), 1);
        }
        int[] states = {0, 4, 0, 0, 0};
        for (int what = 0; what < 5; what++) {
            due("new: state(" + what + ")", x.state(what), states[what]);
        }
        due("new: covers()", x.covers(), 0);
        due("new: drive(0)", x.drive(0), UNKNOWN);
        due("new: seen(0, 0)", x.seen(0, 0), NONE);
        due("new: seen(1, 0)", x.seen(1, 0), NONE);
        due("new: clock(7)", x.clock(7), 0);
        due("new: tag(1)", x.tag(1), 0);
        x.input();
        due("new: nothing is STUCK", x.line(0, 2), 0);
    }

    // ---- promise 2

    private static void inputs() {
        ScanBench x = new ScanBench();
        for (int i = 0; i < 8; i++) {
            due("input() " + i, x.input(), i);
            due("set to at first", x.line(i, 2), 0);
        }
        due("input() the ninth", x.input(), FULL);
        due("count(0)", x.count(0), 8);
        due("count(1)", x.count(1), 8);
        ScanBench y = withInputs(1);
        fillLines(y);
        due("input() as LINE 80", y.input(), FULL);
        due("count(1)", y.count(1), 1);
        due("count(0)", y.count(0), 80);
        ScanBench z = withCells(0);
        due("input() behind a CELL", z.input(), 1);
        due("its number", z.line(1, 1), 0);
    }

    // ---- promise 3

    private static void gates() {
        ScanBench x = new ScanBench();
        due("gate with no LINES", x.gate(3, 0, 0, 0), UNKNOWN);
        due("gate with no LINES and no OP", x.gate(9, 0, 0, 0), OUTSIDE);
        x.input();
        x.input();
        int[] needed = {2, 2, 2, 1, 3, 2, 2};
        int next = 2;
        for (int op = 0; op < 7; op++) {
            due("gate " + op + " first", x.gate(op, next, 0, 0), UNKNOWN);
            due("gate " + op + " first", x.gate(op, -1, 0, 0), UNKNOWN);
            due("gate " + op + " second", x.gate(op, 0, next, 0), needed[op] < 2 ? next++ : UNKNOWN);
            due("gate " + op + " second", x.gate(op, 0, -1, 0), needed[op] < 2 ? next++ : UNKNOWN);
            due("gate " + op + " third", x.gate(op, 0, 0, next), needed[op] < 3 ? next++ : UNKNOWN);
            due("gate " + op + " third", x.gate(op, 0, 0, -1), needed[op] < 3 ? next++ : UNKNOWN);
            due("gate " + op, x.gate(op, 1, 0, 1), next++);
            due("its OP", x.line(next - 1, 1), op);
            due("count(0)", x.count(0), next);
        }
        due("gate(-1, ..)", x.gate(-1, 0, 0, 0), OUTSIDE);
        due("gate(7, ..)", x.gate(7, 0, 0, 0), OUTSIDE);
        due("gate(7, ..) has no SOURCES", x.gate(7, 99, 99, 99), OUTSIDE);
        due("count(0)", x.count(0), next);
        while (x.count(0) < 79) {
            x.gate(0, 0, 1, 0);
        }
        due("gate as LINE 79", x.gate(0, 78, 78, 0), 79);
        due("gate, UNKNOWN first", x.gate(0, 0, 80, 0), UNKNOWN);
        due("gate, OUTSIDE ahead of FULL", x.gate(7, 0, 0, 0), OUTSIDE);
        due("gate as LINE 80", x.gate(0, 0, 0, 0), FULL);
        due("count(0)", x.count(0), 80);
    }

    private static void gateValues() {
        // by the first SOURCE, then the second: 00 01 02 10 11 12 20 21 22
        String[] ofTwo = {"000012022", "012111212", "012102222", "111000222", null, "111102122", "102000202"};
        for (int op = 0; op < 7; op++) {
            for (int at = 0; at < 27; at++) {
                int a = at / 9, b = at / 3 % 3, c = at % 3;
                ScanBench x = withInputs(3);
                x.gate(op, 0, 1, 2);
                x.set(0, a);
                x.set(1, b);
                x.set(2, c);
                int want = op != 4 ? ofTwo[op].charAt(a * 3 + b) - '0'
                    : a == 0 ? b : a == 1 ? c : b == c ? b : 2;
                due("VALUE of OP " + op + " of " + a + " " + b + " " + c, x.line(3, 2), want);
            }
        }
        ScanBench y = withInputs(1);
        for (int l = 0; l < 79; l++) {
            y.gate(3, l, 0, 0);
        }
        due("a long row of NOTs", y.line(79, 2), 1);
        y.set(0, 1);
        due("a long row of NOTs", y.line(79, 2), 0);
        due("its first one", y.line(1, 2), 0);
    }

    // ---- promise 4

    private static void cells() {
        ScanBench x = new ScanBench();
        due("cell(-1)", x.cell(-1), OUTSIDE);
        due("cell(3)", x.cell(3), OUTSIDE);
        due("count(0)", x.count(0), 0);
        for (int c = 0; c < 20; c++) {
            due("cell", x.cell(c % 3), c);
            due("it HOLDS", x.line(c, 2), 2);
        }
        due("cell the 21st", x.cell(0), FULL);
        due("cell, OUTSIDE ahead of FULL", x.cell(3), OUTSIDE);
        due("count(2)", x.count(2), 20);
        due("count(0)", x.count(0), 20);
        ScanBench y = withInputs(1);
        fillLines(y);
        due("cell as LINE 80", y.cell(0), FULL);
        due("cell, OUTSIDE ahead of FULL", y.cell(-1), OUTSIDE);
        due("count(2)", y.count(2), 0);
        ScanBench z = withCells(0, 1, 2);
        due("clock(1)", z.clock(1), 1);
        due("clock(2)", z.clock(2), 1);
        due("clock(4)", z.clock(4), 1);
    }

    // ---- promise 5

    private static void sources() {
        ScanBench x = withInputs(1);
        x.cell(0);
        x.cell(0);
        due("source(0, 2)", x.source(0, 2), 1);
        due("source(0, 0)", x.source(0, 0), 2);
        due("source(1, 1)", x.source(1, 1), 2);
        due("source(2, 0)", x.source(2, 0), UNKNOWN);
        due("source(-1, 0)", x.source(-1, 0), UNKNOWN);
        due("source(0, 3)", x.source(0, 3), UNKNOWN);
        due("source(0, -1)", x.source(0, -1), UNKNOWN);
        due("source(0, 0) as it was", x.source(0, 0), 0);
        x.set(0, 1);
        x.clock(1);
        due("CELL 0 by its SOURCE", x.line(1, 2), 1);
        due("CELL 1 by its SOURCE as it was", x.line(2, 2), 2);
        x.clock(1);
        due("CELL 1 one later", x.line(2, 2), 1);
        // a GATE that was made behind the CELL
        x.gate(3, 1, 0, 0);
        due("source(0, 3)", x.source(0, 3), 0);
        x.clock(1);
        due("CELL 0 is turned over", x.line(1, 2), 0);
        x.clock(1);
        due("CELL 0 is turned over", x.line(1, 2), 1);
    }

    // ---- promise 6

    private static void outputs() {
        ScanBench x = withInputs(8);
        x.cell(0);
        due("output(9)", x.output(9), UNKNOWN);
        due("output(-1)", x.output(-1), UNKNOWN);
        for (int n = 0; n < 8; n++) {
            due("output", x.output(8 - n), n + 1);
            due("output again", x.output(8 - n), NOT);
            due("count(3)", x.count(3), n + 1);
        }
        due("output the ninth", x.output(0), FULL);
        due("output, NOT ahead of FULL", x.output(1), NOT);
        due("output, UNKNOWN ahead of FULL", x.output(9), UNKNOWN);
        due("count(3)", x.count(3), 8);
    }

    // ---- promise 7

    private static void counts() {
        ScanBench x = withInputs(3);
        x.cell(0);
        x.cell(1);
        x.gate(0, 0, 1, 0);
        x.output(5);
        x.chain(0, 1, 0, false);
        x.test(0, 0);
        x.test(0, 0);
        x.test(0, 0);
        x.test(0, 0);
        x.tick(0, 0);
        int[] want = {6, 3, 2, 1, 4, 1, 1};
        for (int what = 0; what < 7; what++) {
            due("count(" + what + ")", x.count(what), want[what]);
        }
        due("count(-1)", x.count(-1), OUTSIDE);
        due("count(7)", x.count(7), OUTSIDE);
        x.tick(2, 0);
        due("a refused TICK does not count", x.count(6), 1);
        x.drive(0);
        due("TICKS of drive() count", x.count(6), 26);
        x.shows(0, 0, 0);
        x.shownBy(0, 0);
        x.covers();
        x.same(0, 1);
        due("TICKS of others do not", x.count(6), 26);
        x.shift(0, 0);
        x.clock(7);
        due("nor is a shift() or a clock() one", x.count(6), 26);
        x.chain(2, 0, 0, false);
        due("count(5)", x.count(5), 2);
        x.unchain(1);
        due("count(5)", x.count(5), 1);
    }

    // ---- promise 8

    private static void lines() {
        ScanBench x = withInputs(1);
        x.cell(2);
        x.gate(5, 0, 1, 0);
        x.input();
        x.cell(0);
        int[][] want = {{0, 0, 0}, {2, 0, 2}, {1, 5, 1}, {0, 1, 0}, {2, 1, 2}};
        for (int l = 0; l < 5; l++) {
            for (int what = 0; what < 3; what++) {
                due("line(" + l + ", " + what + ")", x.line(l, what), want[l][what]);
            }
        }
        due("line(0, -1)", x.line(0, -1), OUTSIDE);
        due("line(0, 3)", x.line(0, 3), OUTSIDE);
        due("line(5, 3)", x.line(5, 3), UNKNOWN);
        due("line(-1, 0)", x.line(-1, 0), UNKNOWN);
    }

    // ---- promise 9

    private static void sets() {
        ScanBench x = withCells(0);
        x.input();
        x.input();
        due("set(1, 2)", x.set(1, 2), 0);
        due("set(1, 1)", x.set(1, 1), 2);
        due("set(1, 3)", x.set(1, 3), OUTSIDE);
        due("set(1, -1)", x.set(1, -1), OUTSIDE);
        due("set(2, 0)", x.set(2, 0), UNKNOWN);
        due("set(-1, 0)", x.set(-1, 0), UNKNOWN);
        due("set(2, 3)", x.set(2, 3), UNKNOWN);
        due("LINE of INPUT 1", x.line(2, 2), 1);
        due("LINE of INPUT 0", x.line(1, 2), 0);
        x.stick(2, 0);
        due("set of a STUCK one", x.set(1, 2), 1);
        due("set of a STUCK one", x.set(1, 1), 2);
        due("its VALUE", x.line(2, 2), 0);
        x.stick(NONE, 0);
        due("its VALUE behind that", x.line(2, 2), 1);
    }

    // ---- promise 10

    private static void holds() {
        ScanBench x = withInputs(1);
        x.cell(0);
        x.cell(1);
        due("hold(1, 1)", x.hold(1, 1), 2);
        due("hold(1, 0)", x.hold(1, 0), 1);
        due("hold(1, 2)", x.hold(1, 2), 0);
        due("hold(1, 3)", x.hold(1, 3), OUTSIDE);
        due("hold(1, -1)", x.hold(1, -1), OUTSIDE);
        due("hold(2, 0)", x.hold(2, 0), UNKNOWN);
        due("hold(-1, 0)", x.hold(-1, 0), UNKNOWN);
        due("hold(2, 3)", x.hold(2, 3), UNKNOWN);
        due("hold(1, 0)", x.hold(1, 0), 2);
        due("LINE of CELL 1", x.line(2, 2), 0);
        x.stick(2, 1);
        due("hold of a STUCK one", x.hold(1, 2), 0);
        due("hold of a STUCK one", x.hold(1, 0), 2);
        due("its VALUE", x.line(2, 2), 1);
        x.stick(NONE, 0);
        due("its VALUE behind that", x.line(2, 2), 0);
    }

    // ---- promise 11

    private static void clocks() {
        int[] domains = {0, 1, 2, 0, 1, 0};
        int[] many = {0, 3, 2, 5, 1, 4, 3, 6};
        for (int mask = 0; mask < 8; mask++) {
            ScanBench x = withCells(domains);
            x.input();
            x.set(0, 1);
            for (int c = 0; c < 6; c++) {
                x.source(c, 6);
            }
            due("clock(" + mask + ")", x.clock(mask), many[mask]);
            for (int c = 0; c < 6; c++) {
                due("clock(" + mask + ") CELL " + c, x.line(c, 2), (mask >> domains[c] & 1) == 1 ? 1 : 2);
            }
        }
        ScanBench y = withCells(0, 0, 0);
        due("clock(-1)", y.clock(-1), OUTSIDE);
        due("clock(8)", y.clock(8), OUTSIDE);
        y.source(0, 2);
        y.source(1, 0);
        y.source(2, 1);
        holdAll(y, 0, 1, 2);
        y.clock(1);
        dueHeld("all at once", y, 2, 0, 1);
        y.stick(2, 1);
        due("a STUCK one goes on", y.clock(1), 3);
        dueHeld("with a STUCK one", y, 1, 2, 0);
        due("its VALUE", y.line(2, 2), 1);
        ScanBench z = withCells(0);
        z.stick(0, 1);
        z.clock(1);
        dueHeld("itself by its VALUE", z, 1);
    }

    // ---- promise 12

    private static void sticks() {
        ScanBench x = withInputs(2);
        x.gate(1, 0, 1, 0);
        x.cell(0);
        due("stick(4, 0)", x.stick(4, 0), UNKNOWN);
        due("stick(4, 2)", x.stick(4, 2), UNKNOWN);
        due("stick(-2, 0)", x.stick(-2, 0), UNKNOWN);
        due("stick(0, 2)", x.stick(0, 2), OUTSIDE);
        due("stick(0, -1)", x.stick(0, -1), OUTSIDE);
        due("stick(0, 1)", x.stick(0, 1), 1);
        due("an INPUT", x.line(0, 2), 1);
        due("the GATE behind it", x.line(2, 2), 1);
        due("stick(4, 0) refused", x.stick(4, 0), UNKNOWN);
        due("stick(1, 5) refused", x.stick(1, 5), OUTSIDE);
        due("STUCK as it was", x.line(0, 2), 1);
        due("stick(2, 0)", x.stick(2, 0), 1);
        due("in place of that", x.line(0, 2), 0);
        x.set(0, 1);
        due("a GATE", x.line(2, 2), 0);
        due("stick(3, 1)", x.stick(3, 1), 1);
        due("a CELL", x.line(3, 2), 1);
        due("the GATE as before", x.line(2, 2), 1);
        due("stick(3, 0)", x.stick(3, 0), 1);
        due("a CELL", x.line(3, 2), 0);
        due("stick(NONE, 9)", x.stick(NONE, 9), 1);
        due("nothing is", x.line(3, 2), 2);
        due("stick(NONE, 0)", x.stick(NONE, 0), 1);
    }

    // ---- promise 13

    private static void chains() {
        ScanBench x = withCells(0, 1, 2, 0);
        due("chain(3, ..)", x.chain(3, 0, 0, false), UNKNOWN);
        due("chain(-1, ..)", x.chain(-1, 0, 0, false), UNKNOWN);
        due("chain(0, 4, ..)", x.chain(0, 4, 0, false), UNKNOWN);
        due("chain(0, -1, ..)", x.chain(0, -1, 0, false), UNKNOWN);
        due("chain, UNKNOWN first", x.chain(0, 4, 9, false), UNKNOWN);
        due("chain(0, 0, 1, ..)", x.chain(0, 0, 1, false), OUTSIDE);
        due("chain(0, 0, -1, ..)", x.chain(0, 0, -1, false), OUTSIDE);
        due("chain 1st", x.chain(1, 2, 0, false), 1);
        due("chain ahead", x.chain(1, 0, 0, false), 2);
        due("chain behind", x.chain(1, 3, 2, false), 3);
        due("chain between", x.chain(1, 1, 1, false), 4);
        int[] want = {0, 1, 2, 3, NONE};
        for (int i = 0; i < want.length; i++) {
            due("link(1, " + i + ")", x.link(1, i), want[i]);
        }
        due("chain, NOT", x.chain(0, 0, 0, false), NOT);
        due("chain, NOT in the same", x.chain(1, 0, 0, true), NOT);
        due("chain, OUTSIDE ahead of NOT", x.chain(0, 0, 1, false), OUTSIDE);
        due("count(5)", x.count(5), 4);
        due("a refused TURNED", x.shift(1, 1), 2);
        dueHeld("not TURNED", x, 1, 2, 2, 2);
        ScanBench y = withCells(new int[20]);
        for (int c = 0; c < 20; c++) {
            due("chain at 0", y.chain(2, c, 0, false), c + 1);
        }
        for (int i = 0; i < 20; i++) {
            due("link(2, " + i + ")", y.link(2, i), 19 - i);
        }
    }

    // ---- promise 14

    private static void unchains() {
        ScanBench x = withCells(0, 0, 0, 0);
        due("unchain(4)", x.unchain(4), UNKNOWN);
        due("unchain(-1)", x.unchain(-1), UNKNOWN);
        due("unchain(0)", x.unchain(0), 0);
        x.chain(0, 0, 0, true);
        x.chain(0, 1, 1, false);
        x.chain(0, 2, 2, false);
        x.chain(2, 3, 0, false);
        due("unchain(1)", x.unchain(1), 1);
        due("unchain(1) again", x.unchain(1), 0);
        due("link(0, 0)", x.link(0, 0), 0);
        due("link(0, 1)", x.link(0, 1), 2);
        due("link(0, 2)", x.link(0, 2), NONE);
        due("link(2, 0)", x.link(2, 0), 3);
        due("unchain(0)", x.unchain(0), 1);
        due("link(0, 0)", x.link(0, 0), 2);
        due("chain again", x.chain(0, 0, 1, false), 2);
        holdAll(x, 0, 1, 1, 1);
        due("shift(0, 0)", x.shift(0, 0), 0);
        dueHeld("TURNED no more", x, 1, 1, 0, 1);
    }

    // ---- promise 15

    private static void links() {
        ScanBench x = withCells(0, 0);
        x.chain(2, 1, 0, false);
        due("link(2, 0)", x.link(2, 0), 1);
        due("link(2, 1)", x.link(2, 1), NONE);
        due("link(2, -1)", x.link(2, -1), NONE);
        due("link(0, 0)", x.link(0, 0), NONE);
        due("link(3, 0)", x.link(3, 0), UNKNOWN);
        due("link(-1, 0)", x.link(-1, 0), UNKNOWN);
        due("link(2, HIGH)", x.link(2, HIGH), NONE);
    }

    // ---- promise 16

    private static void stitches() {
        ScanBench x = withCells(1, 0, 1, 2, 1, 0);
        x.chain(1, 5, 0, true);
        x.chain(0, 4, 0, false);
        due("stitch()", x.stitch(), 4);
        int[][] want = {{4, 1, NONE}, {5, 0, 2, NONE}, {3, NONE}};
        for (int k = 0; k < 3; k++) {
            for (int i = 0; i < want[k].length; i++) {
                due("link(" + k + ", " + i + ")", x.link(k, i), want[k][i]);
            }
        }
        due("stitch() again", x.stitch(), 0);
        x.unchain(5);
        due("stitch() of one", x.stitch(), 1);
        due("by its DOMAIN", x.link(0, 2), 5);
        holdAll(x, 0, 0, 0, 0, 0, 0);
        x.shift(0, 1);
        dueHeld("not TURNED", x, 0, 0, 0, 0, 1, 0);
        x.shift(0, 0);
        x.shift(0, 0);
        dueHeld("not TURNED", x, 0, 0, 0, 0, 0, 1);
    }

    // ---- promise 17

    private static void shifts() {
        ScanBench x = withCells(0, 0, 0, 0);
        x.chain(0, 2, 0, false);
        x.chain(0, 0, 1, true);
        x.chain(0, 1, 2, false);
        holdAll(x, 0, 1, 1, 1);
        due("shift(3, 0)", x.shift(3, 0), UNKNOWN);
        due("shift(-1, 9)", x.shift(-1, 9), UNKNOWN);
        due("shift(0, 3)", x.shift(0, 3), OUTSIDE);
        due("shift(0, -1)", x.shift(0, -1), OUTSIDE);
        dueHeld("refused", x, 0, 1, 1, 1);
        due("shift(0, 2)", x.shift(0, 2), 1);
        dueHeld("shifted once", x, 0, 0, 2, 1);
        due("shift(0, 0)", x.shift(0, 0), 0);
        dueHeld("shifted twice", x, 2, 0, 0, 1);
        due("shift(0, 1)", x.shift(0, 1), 0);
        dueHeld("shifted three times", x, 1, 2, 1, 1);
        x.stick(0, 0);
        due("shift with a STUCK one", x.shift(0, 0), 2);
        dueHeld("by its VALUE", x, 0, 0, 0, 1);
        x.stick(1, 1);
        due("OUT of a STUCK one", x.shift(0, 0), 1);
        dueHeld("it goes on", x, 1, 0, 0, 1);
        for (int v = 0; v < 3; v++) {
            due("shift of an empty one", x.shift(1, v), v);
        }
        ScanBench y = withCells(0);
        y.chain(0, 0, 0, true);
        int[] turned = {1, 0, 2};
        for (int v = 0; v < 3; v++) {
            y.shift(0, v);
            dueHeld("TURNED first one by " + v, y, turned[v]);
        }
    }

    // ---- promise 18

    private static void tags() {
        ScanBench x = new ScanBench();
        due("tag(70000)", x.tag(70000), 0);
        due("tag(-1)", x.tag(-1), 4464);
        due("tag(LOW)", x.tag(LOW), 65535);
        due("tag(65535)", x.tag(65535), 0);
        due("tag(0)", x.tag(0), 65535);
        x.tag(0x8001);
        due("the row is not yet it", x.state(4), 0);
        lead(x, WAY[3]);
        due("the row is not yet it", x.state(4), 0);
        x.tick(0, 0);
        due("the row is it", x.state(4), 0x8001);
        due("tick(0, 0)", x.tick(0, 0), 1);
        due("the row", x.state(4), 0x4000);
        due("tick(0, 1)", x.tick(0, 1), 0);
        due("the row", x.state(4), 0xA000);
        due("THE TAG stays", x.tag(3), 0x8001);
        due("the row stays", x.state(4), 0xA000);
    }

    // ---- promise 19

    private static void ticks() {
        int[][] next = {{1, 0}, {1, 2}, {3, 9}, {4, 5}, {4, 5}, {6, 8}, {6, 7}, {4, 8}, {1, 2}, {10, 0}, {11, 12},
            {11, 12}, {13, 15}, {13, 14}, {11, 15}, {1, 2}};
        for (int s = 0; s < 16; s++) {
            for (int lead = 0; lead < 2; lead++) {
                ScanBench x = new ScanBench();
                lead(x, WAY[s]);
                due("way to STATE", x.state(0), s);
                due("tick(2, 0) in " + s, x.tick(2, 0), OUTSIDE);
                due("tick(-1, 0) in " + s, x.tick(-1, 0), OUTSIDE);
                due("tick(0, 2) in " + s, x.tick(0, 2), OUTSIDE);
                due("tick(0, -1) in " + s, x.tick(0, -1), OUTSIDE);
                due("STATE as it was", x.state(0), s);
                int out = s == 4 ? 0 : s == 11 ? 1 : NONE;
                due("tick(" + lead + ", 0) in " + s, x.tick(lead, 0), out);
                due("from " + s + " by " + lead, x.state(0), next[s][lead]);
                due("count(6)", x.count(6), WAY[s].length() + 1);
            }
        }
        ScanBench y = new ScanBench();
        give(y, 6);
        due("ORDER", y.state(1), 6);
        lead(y, "111");
        due("ORDER as STATE 0 begins", y.state(1), 6);
        y.tick(1, 0);
        due("ORDER behind STATE 0", y.state(1), 4);
    }

    private static void ordersCatch() {
        for (int order = 0; order < 8; order++) {
            ScanBench x = withCells(0, 1, 2, 0);
            x.input();
            x.set(0, 1);
            for (int c = 0; c < 4; c++) {
                x.source(c, 4);
            }
            x.chain(0, 0, 0, false);
            x.tag(0x1234);
            give(x, 7);
            lead(x, "100");
            x.tick(1, 1);
            lead(x, "10");
            due("ASIDE", x.state(3), 1);
            give(x, order);
            due("ORDER", x.state(1), order);
            lead(x, "10");
            dueHeld("ORDER " + order + " ahead of CATCH", x, 2, 2, 2, 2);
            due("CATCH answers", x.tick(1, 1), NONE);
            int all = order < 4 ? 1 : 2, first = order < 4 || order == 5 ? 1 : 2;
            dueHeld("ORDER " + order + " behind CATCH", x, first, all, all, first);
            due("ORDER " + order + " the TAG's row", x.state(4), order == 4 ? 0x1234 : 0);
            due("ORDER " + order + " ASIDE", x.state(3), order >= 6 ? 0 : 1);
        }
    }

    private static void ordersShift() {
        for (int order = 0; order < 8; order++) {
            ScanBench x = withCells(0, 0, 0, 0);
            x.chain(0, 0, 0, false);
            x.chain(0, 1, 1, true);
            x.chain(1, 2, 0, false);
            x.chain(2, 3, 0, true);
            give(x, order);
            lead(x, "100");
            holdAll(x, 0, 0, 0, 0);
            String got = "" + x.tick(0, 1) + x.tick(0, 0) + x.tick(0, 1);
            due("ORDER " + order + " goes OUT " + got, got.equals(outsOf(order)) ? 1 : 0, 1);
            dueHeld("ORDER " + order, x, heldOf(order));
            due("ORDER " + order + " ASIDE", x.state(3), order >= 5 ? 1 : 0);
            due("ORDER " + order + " the TAG's row", x.state(4), order == 4 ? 0xA000 : 0);
        }
    }

    /** What goes OUT by IN 1, 0, 1; a ' tells the TURNED ones. */
    private static String outsOf(int order) {
        switch (order) {
            // CELLS 0 1': 00 -> 11 -> 00 -> 11
            case 0: return "010";
            // CELL 2: 0 -> 1 -> 0 -> 1
            case 1: return "010";
            // CELL 3': 0 -> 0 -> 1 -> 0
            case 2: return "001";
            // CELLS 0 1' 2 3': 0000 -> 1101 -> 0011 -> 1100
            case 3: return "011";
            // the TAG's row is 0
            case 4: return "000";
            // ASIDE is 0, then what came in
            default: return "010";
        }
    }

    private static int[] heldOf(int order) {
        switch (order) {
            case 0: return new int[] {1, 1, 0, 0};
            case 1: return new int[] {0, 0, 1, 0};
            case 2: return new int[] {0, 0, 0, 0};
            case 3: return new int[] {1, 1, 0, 0};
            default: return new int[] {0, 0, 0, 0};
        }
    }

    // ---- promise 20

    private static void states() {
        ScanBench x = new ScanBench();
        due("state(-1)", x.state(-1), OUTSIDE);
        due("state(5)", x.state(5), OUTSIDE);
        lead(x, WAY[10]);
        due("ROW ahead of 10", x.state(2), 0);
        x.tick(0, 1);
        due("ROW behind 10", x.state(2), 1);
        due("OUT of the ROW", x.tick(0, 1), 1);
        due("ROW", x.state(2), 4);
        due("OUT of the ROW", x.tick(0, 1), 0);
        due("ROW", x.state(2), 6);
        due("OUT of the ROW", x.tick(0, 0), 0);
        due("ROW", x.state(2), 3);
        due("OUT of the ROW", x.tick(1, 1), 1);
        due("ROW", x.state(2), 5);
        x.tick(1, 0);
        due("ORDER in STATE 15", x.state(1), 4);
        x.tick(1, 0);
        due("ORDER behind it", x.state(1), 5);
        due("STATE", x.state(0), 2);
        due("ROW stays", x.state(2), 5);
        for (int order = 0; order < 8; order++) {
            give(x, order);
            due("ORDER", x.state(1), order);
            due("STATE", x.state(0), 1);
        }
    }

    // ---- promise 21

    private static void tests() {
        ScanBench x = withInputs(2);
        x.cell(0);
        due("test(4, 0)", x.test(4, 0), OUTSIDE);
        due("test(-1, 0)", x.test(-1, 0), OUTSIDE);
        due("test(0, 2)", x.test(0, 2), OUTSIDE);
        due("test(0, LOW)", x.test(0, LOW), OUTSIDE);
        due("count(4)", x.count(4), 0);
        for (int t = 0; t < 20; t++) {
            due("test", x.test(3, 1), t);
        }
        due("test the 21st", x.test(0, 0), FULL);
        due("test, OUTSIDE ahead of FULL", x.test(4, 0), OUTSIDE);
        due("count(4)", x.count(4), 20);
        ScanBench y = new ScanBench();
        due("test(1, 0) without INPUTS", y.test(1, 0), OUTSIDE);
        due("test(0, 1) without CELLS", y.test(0, 1), OUTSIDE);
        due("test(0, 0) without LINES", y.test(0, 0), 0);
        ScanBench z = withCells(new int[20]);
        for (int i = 0; i < 8; i++) {
            z.input();
        }
        due("test, all bits", z.test(255, (1 << 20) - 1), 0);
        due("test, an INPUT's too many", z.test(256, 0), OUTSIDE);
        due("test, a CELL's too many", z.test(0, 1 << 20), OUTSIDE);
    }

    // ---- promise 22

    private static void drives() {
        ScanBench x = withInputs(2);
        x.set(0, 1);
        x.set(1, 2);
        x.test(2, 0);
        due("drive(0) without CELLS", x.drive(0), 25);
        due("INPUT 0 is set", x.set(0, 0), 0);
        due("INPUT 1 is set", x.set(1, 0), 1);
        due("drive(1)", x.drive(1), UNKNOWN);
        due("drive(-1)", x.drive(-1), UNKNOWN);
        due("count(6)", x.count(6), 25);
        int[] after = {1, 3, 3, 0, 0};
        for (int what = 0; what < 5; what++) {
            due("behind drive(0) state(" + what + ")", x.state(what), after[what]);
        }
        for (int n = 1; n <= 20; n++) {
            ScanBench y = withCells(new int[20]);
            for (int c = 0; c < n; c++) {
                y.chain(c % 3, c, 0, false);
            }
            y.test(0, 0);
            due("drive(0) with " + n, y.drive(0), 23 + 2 * n);
        }
        ScanBench z = withInputs(1);
        z.cell(1);
        z.source(0, 0);
        z.test(1, 0);
        due("drive(0), the CELL in no CHAIN", z.drive(0), 25);
        due("it is CLOCKED", z.line(1, 2), 1);
        z.output(1);
        z.hold(0, 0);
        z.drive(0);
        due("ahead of what is SEEN, too", z.seen(0, 0), 1);
        z.test(0, 1);
        z.drive(1);
        due("its bit is not looked at", z.seen(0, 0), 0);
    }

    /** Whatever the STATE and ORDER are, the same is SEEN where CHAINS are loaded. */
    private static void drivesFromAnyState() {
        for (int s = 0; s < 16; s++) {
            for (int order = 0; order < 8; order++) {
                ScanBench x = withCells(0, 1, 2);
                x.gate(3, 2, 0, 0);
                x.source(0, 3);
                x.source(1, 0);
                x.source(2, 1);
                x.stitch();
                x.output(0);
                x.output(3);
                x.test(0, 5);
                give(x, order);
                lead(x, s == 0 ? "111" : WAY[s].substring(1));
                due("STATE", x.state(0), s);
                due("drive(0)", x.drive(0), 29);
                due("STATE behind it", x.state(0), 1);
                due("ORDER behind it", x.state(1), 3);
                int[] seen = {1, 0, 0, 1, 0};
                for (int i = 0; i < 5; i++) {
                    due("seen " + i, i < 2 ? x.seen(0, i) : x.seen(1, i - 2), seen[i]);
                }
            }
        }
    }

    /** The first TICK of a drive may SHIFT: IN is 0 there. */
    private static void drivesFromShift() {
        for (int order = 4; order < 8; order++) {
            ScanBench x = new ScanBench();
            x.test(0, 0);
            x.tag(0xFFFF);
            if (order == 4) {
                lead(x, WAY[4]);
            } else {
                give(x, order);
                lead(x, "100");
                x.tick(0, 1);
                due("ASIDE", x.state(3), 1);
            }
            due("STATE", x.state(0), 4);
            x.drive(0);
            due("ASIDE", x.state(3), 0);
            due("the TAG's row", x.state(4), order == 4 ? 0x7FFF : 0);
        }
    }

    /** Every way to turn four CELLS over three CHAINS, every bit: they HOLD their bits as OUTPUTS are SEEN. */
    private static void drivesWithTurned() {
        int[][] places = {{0, 0, 0, 0}, {2, 1, 0, 2}, {1, 1, 2, 2}, {0, 2, 0, 2}};
        for (int[] place : places) {
            for (int turned = 0; turned < 16; turned++) {
                ScanBench x = withCells(0, 1, 2, 0);
                for (int c = 0; c < 4; c++) {
                    x.chain(place[c], c, 0, (turned >> c & 1) == 1);
                    x.output(c);
                }
                for (int bits = 0; bits < 16; bits++) {
                    x.test(0, bits);
                    due("drive", x.drive(bits), 31);
                    for (int c = 0; c < 4; c++) {
                        due("turned " + turned + " bits " + bits + " CELL " + c, x.seen(0, c), bits >> c & 1);
                    }
                }
            }
        }
    }

    // ---- promise 23

    private static void seen() {
        ScanBench x = withInputs(1);
        x.cell(0);
        x.cell(0);
        x.gate(2, 0, 1, 0);
        x.source(1, 3);
        x.output(3);
        x.output(1);
        due("seen(0, 0) ahead of drives", x.seen(0, 0), NONE);
        due("seen(1, 0) ahead of drives", x.seen(1, 0), NONE);
        due("seen(2, 0)", x.seen(2, 0), OUTSIDE);
        due("seen(-1, 0)", x.seen(-1, 0), OUTSIDE);
        x.stitch();
        x.test(1, 0);
        x.test(0, 1);
        x.drive(0);
        // CELLS 0 0, INPUT 1: OUTPUTS 1 0; CLOCKED to 0 1; OUT 1 0
        int[] first = {1, 0, 1, 0};
        for (int i = 0; i < 4; i++) {
            due("first seen " + i, x.seen(i / 2, i % 2), first[i]);
        }
        x.drive(7);
        x.shows(1, 0, 0);
        x.shownBy(1, 0);
        x.covers();
        x.output(2);
        x.unchain(0);
        for (int i = 0; i < 4; i++) {
            due("still seen " + i, x.seen(i / 2, i % 2), first[i]);
        }
        due("seen(0, 2), told behind it", x.seen(0, 2), NONE);
        due("seen(1, 2)", x.seen(1, 2), NONE);
        due("seen(0, -1)", x.seen(0, -1), NONE);
        due("seen(1, -1)", x.seen(1, -1), NONE);
        x.drive(1);
        // CELL 0 alone in no CHAIN: it HOLDS what it held, 0 by the unloading; CELL 1 is loaded by 0
        due("seen(0, 0)", x.seen(0, 0), 0);
        due("seen(0, 2)", x.seen(0, 2), 0);
        due("seen(1, 0)", x.seen(1, 0), 0);
        due("seen(1, 1), fewer now", x.seen(1, 1), NONE);
        ScanBench y = withCells(0);
        y.output(0);
        y.test(0, 0);
        y.drive(0);
        due("not known", y.seen(0, 0), 2);
        due("without CELLS in CHAINS", y.seen(1, 0), 0);
        due("only one", y.seen(1, 1), NONE);
        // STUCK: loaded with 1 1, but CELL 0 is 0, and so is what comes through it
        ScanBench z = withCells(0, 0);
        z.stitch();
        z.output(0);
        z.output(1);
        z.test(0, 3);
        z.stick(0, 0);
        z.drive(0);
        int[] stuck = {0, 0, 0, 0};
        for (int i = 0; i < 4; i++) {
            due("seen with a STUCK one " + i, z.seen(i / 2, i % 2), stuck[i]);
        }
    }

    // ---- promise 24

    private static ScanBench toShow() {
        ScanBench x = withInputs(2);
        x.gate(0, 0, 1, 0);
        x.output(2);
        x.test(3, 0);
        x.test(1, 0);
        x.test(0, 0);
        return x;
    }

    private static void shows() {
        ScanBench x = toShow();
        // by TEST, then LINE, then v
        int[][] want = {{1, 0, 1, 0, 1, 0}, {0, 0, 0, 1, 0, 1}, {0, 0, 0, 0, 0, 1}};
        for (int t = 0; t < 3; t++) {
            for (int f = 0; f < 6; f++) {
                due("shows(" + t + ", " + f / 2 + ", " + f % 2 + ")", x.shows(t, f / 2, f % 2), want[t][f]);
            }
        }
        due("shows(3, 0, 0)", x.shows(3, 0, 0), UNKNOWN);
        due("shows(-1, 0, 0)", x.shows(-1, 0, 0), UNKNOWN);
        due("shows(0, 3, 0)", x.shows(0, 3, 0), UNKNOWN);
        due("shows(0, NONE, 0)", x.shows(0, NONE, 0), UNKNOWN);
        due("shows(0, 3, 2)", x.shows(0, 3, 2), UNKNOWN);
        due("shows(0, 0, 2)", x.shows(0, 0, 2), OUTSIDE);
        due("shows(0, 0, -1)", x.shows(0, 0, -1), OUTSIDE);
        x.stick(0, 0);
        due("what is STUCK now is not looked at", x.shows(0, 0, 0), 1);
        due("what is STUCK now is not looked at", x.shows(0, 1, 0), 1);
        // A CELL in no CHAIN that nothing sets is not known without a fault, so nothing shows it.
        ScanBench y = withCells(0);
        y.output(0);
        y.hold(0, 1);
        y.test(0, 0);
        due("unlike, but not known", y.shows(0, 0, 0), 0);
        due("unlike, but not known", y.shows(0, 0, 1), 0);
        // CELL 0 in no CHAIN HOLDS AND of INPUT 0 and itself: 0 by 0, but by 1 it stays not known.
        ScanBench w = withInputs(1);
        w.cell(0);
        w.gate(0, 0, 1, 0);
        w.gate(2, 0, 1, 0);
        w.source(0, 2);
        w.output(3);
        w.test(0, 0);
        w.hold(0, 0);
        due("both from the same beginning", w.shows(0, 0, 1), 0);
        due("both from the same beginning", w.shows(0, 3, 1), 1);
        due("both from the same beginning", w.shows(0, 0, 1), 0);
        due("shownBy, too", w.shownBy(0, 1), NONE);
        // LINES 1, 2 and 3 at 1
        due("covers, too", w.covers(), 3);
        // Only what is unloaded shows it.
        ScanBench z = withCells(0, 0);
        z.gate(3, 0, 0, 0);
        z.source(1, 2);
        z.stitch();
        z.test(0, 0);
        due("by what goes OUT", z.shows(0, 2, 0), 1);
        due("by what goes OUT", z.shows(0, 2, 1), 0);
    }

    private static void showsChangesNothing() {
        ScanBench x = withInputs(1);
        x.cell(0);
        x.cell(1);
        x.gate(2, 0, 1, 0);
        x.source(0, 3);
        x.source(1, 1);
        x.stitch();
        x.output(3);
        x.test(1, 2);
        x.test(0, 1);
        x.tag(77);
        give(x, 6);
        lead(x, "10");
        x.set(0, 2);
        holdAll(x, 1, 0);
        x.stick(3, 1);
        int before = x.count(6);
        x.shows(0, 1, 0);
        x.shownBy(3, 0);
        x.covers();
        x.same(1, 3);
        due("count(6)", x.count(6), before);
        int[] states = {3, 6, 6, 0, 0};
        for (int what = 0; what < 5; what++) {
            due("state(" + what + ")", x.state(what), states[what]);
        }
        due("STUCK", x.line(3, 2), 1);
        due("INPUT 0", x.set(0, 1), 2);
        dueHeld("behind shows()", x, 1, 0);
        due("THE TAG", x.tag(0), 77);
        due("seen(0, 0)", x.seen(0, 0), NONE);
        due("seen(1, 0)", x.seen(1, 0), NONE);
    }

    // ---- promise 25

    private static void shownBy() {
        ScanBench x = toShow();
        int[] want = {0, NONE, 0, 1, 0, 1};
        for (int f = 0; f < 6; f++) {
            due("shownBy(" + f / 2 + ", " + f % 2 + ")", x.shownBy(f / 2, f % 2), want[f]);
        }
        due("shownBy(3, 0)", x.shownBy(3, 0), UNKNOWN);
        due("shownBy(NONE, 2)", x.shownBy(NONE, 2), UNKNOWN);
        due("shownBy(0, 2)", x.shownBy(0, 2), OUTSIDE);
        due("shownBy(0, -1)", x.shownBy(0, -1), OUTSIDE);
        due("shownBy without TESTS", withInputs(1).shownBy(0, 0), NONE);
    }

    // ---- promise 26

    private static void covers() {
        ScanBench x = toShow();
        due("covers()", x.covers(), 5);
        x.test(2, 0);
        due("covers() with one more", x.covers(), 6);
        due("covers() again", x.covers(), 6);
        x.stick(0, 0);
        due("covers() with one STUCK", x.covers(), 6);
        due("covers() without TESTS", withInputs(3).covers(), 0);
        ScanBench y = withCells(0, 1, 2);
        y.stitch();
        y.test(0, 0);
        due("CELLS by a TEST of zeros", y.covers(), 3);
        y.test(0, 7);
        due("CELLS by one of ones, too", y.covers(), 6);
    }

    // ---- promise 27

    private static void same() {
        ScanBench x = withInputs(2);
        x.cell(0);
        for (int op = 0; op < 7; op++) {
            x.gate(op, 0, 1, 2);
        }
        due("INPUTS", x.same(0, 1), 4);
        due("an INPUT and a CELL", x.same(1, 2), 4);
        due("itself", x.same(9, 9), 8);
        due("AND, OR", x.same(3, 4), 4);
        due("AND, NAND", x.same(3, 8), 0);
        due("OR, XOR", x.same(4, 5), 6);
        due("OR, INPUT", x.same(4, 0), 6);
        due("XOR, PICK", x.same(5, 7), 6);
        due("PICK, CELL", x.same(7, 2), 6);
        due("CELL, PICK", x.same(2, 7), 6);
        x.stick(3, 1);
        due("with nothing STUCK", x.same(3, 4), 4);
        due("same(10, 0)", x.same(10, 0), UNKNOWN);
        due("same(0, 10)", x.same(0, 10), UNKNOWN);
        due("same(-1, 0)", x.same(-1, 0), UNKNOWN);
        due("same(0, -1)", x.same(0, -1), UNKNOWN);
        ScanBench y = withInputs(8);
        y.cell(0);
        y.cell(1);
        due("ten in all", y.same(0, 9), 512);
        y.gate(3, 9, 0, 0);
        due("ten in all", y.same(9, 10), 0);
        y.cell(2);
        due("eleven in all", y.same(0, 9), NOT);
        due("eleven in all, UNKNOWN first", y.same(0, 12), UNKNOWN);
        ScanBench z = withCells(0, 0);
        z.gate(0, 0, 1, 0);
        due("AND, its first CELL", z.same(2, 0), 3);
        due("AND, its second CELL", z.same(1, 2), 3);
        z.output(2);
        z.stitch();
        z.test(0, 3);
        due("shows(0, 0, 0)", z.shows(0, 0, 0), 1);
        due("what was tried is not STUCK", z.same(2, 1), 3);
        fillLines(z);
        // LINE 3 is NOT of LINE 0, and so are all behind it
        due("the last LINE", z.same(79, 3), 4);
        due("the last LINE", z.same(0, 79), 0);
    }

    // ---- wrong numbers far out, and the largest bench

    private static void extremes() {
        int[] far = {LOW, HIGH, -2, 80, 100};
        for (int n : far) {
            ScanBench x = withCells(0);
            due("gate", x.gate(0, n, 0, 0), UNKNOWN);
            due("gate", x.gate(n, 0, 0, 0), OUTSIDE);
            due("cell", x.cell(n), OUTSIDE);
            due("source", x.source(n, 0), UNKNOWN);
            due("source", x.source(0, n), UNKNOWN);
            due("output", x.output(n), UNKNOWN);
            due("count", x.count(n), OUTSIDE);
            due("line", x.line(n, 0), UNKNOWN);
            due("line", x.line(0, n), OUTSIDE);
            due("set", x.set(n, 0), UNKNOWN);
            due("hold", x.hold(n, 0), UNKNOWN);
            due("hold", x.hold(0, n), OUTSIDE);
            due("clock", x.clock(n), OUTSIDE);
            due("stick", x.stick(n, 0), UNKNOWN);
            due("stick", x.stick(0, n), OUTSIDE);
            due("chain", x.chain(n, 0, 0, false), UNKNOWN);
            due("chain", x.chain(0, n, 0, false), UNKNOWN);
            due("chain", x.chain(0, 0, n, false), OUTSIDE);
            due("unchain", x.unchain(n), UNKNOWN);
            due("link", x.link(n, 0), UNKNOWN);
            due("link", x.link(0, n), NONE);
            due("shift", x.shift(n, 0), UNKNOWN);
            due("shift", x.shift(0, n), OUTSIDE);
            due("tick", x.tick(n, 0), OUTSIDE);
            due("tick", x.tick(0, n), OUTSIDE);
            due("state", x.state(n), OUTSIDE);
            due("test", x.test(n, 0), OUTSIDE);
            due("test", x.test(0, n), OUTSIDE);
            due("drive", x.drive(n), UNKNOWN);
            due("seen", x.seen(n, 0), OUTSIDE);
            due("seen", x.seen(0, n), NONE);
            due("shows", x.shows(n, 0, 0), UNKNOWN);
            due("shownBy", x.shownBy(n, 0), UNKNOWN);
            due("shownBy", x.shownBy(0, n), OUTSIDE);
            due("same", x.same(n, 0), UNKNOWN);
        }
        largest();
    }

    /** Twenty CELLS in a ring of NOTs over three CHAINS, eight OUTPUTS, twenty TESTS. */
    private static void largest() {
        ScanBench x = new ScanBench();
        for (int i = 0; i < 8; i++) {
            x.input();
        }
        for (int c = 0; c < 20; c++) {
            x.cell(c % 3);
        }
        for (int l = 28; l < 80; l++) {
            due("gate", x.gate(3, l - 20, 0, 0), l);
        }
        for (int c = 0; c < 20; c++) {
            x.source(c, 28 + (c + 1) % 20);
        }
        for (int i = 0; i < 8; i++) {
            due("output", x.output(72 + i), i + 1);
        }
        due("stitch()", x.stitch(), 20);
        for (int t = 0; t < 20; t++) {
            x.test(t, 1 << t);
        }
        due("drive(19)", x.drive(19), 63);
        // LINE 72 + i is NOT NOT NOT of CELL 4 + i (LINE 12 + i) for i < 8; OUTPUTS are all 1 by bit 19
        for (int i = 0; i < 8; i++) {
            due("seen(0, " + i + ")", x.seen(0, i), 1);
        }
        // CELL c catches NOT of CELL (c + 1) % 20, so only CELL 18 holds 0; it is in CHAIN 0, the seventh one
        for (int i = 0; i < 20; i++) {
            due("seen(1, " + i + ")", x.seen(1, i), i == 19 - 6 ? 0 : 1);
        }
        due("seen(1, 20)", x.seen(1, 20), NONE);
        due("same()", x.same(0, 79), NOT);
        due("covers() is the sum of shownBy()", x.covers(), sumOfShown(x));
    }

    private static int sumOfShown(ScanBench x) {
        int sum = 0;
        for (int l = 0; l < x.count(0); l++) {
            for (int v = 0; v < 2; v++) {
                sum += x.shownBy(l, v) >= 0 ? 1 : 0;
            }
        }
        return sum;
    }
}
