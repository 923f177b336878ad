import java.util.ArrayList;
import java.util.List;

/**
 * Each sentence of the document that names a boundary case has a test of its own here: the number just inside
 * a bound and the one just outside, the empty and the full case, the wrap-around, and each refused call with
 * its answer, its place in the order of REFUSALS, and that it changed nothing.
 */
public final class BoundsTest {
    private static final int NONE = -1, UNKNOWN = -1001, OUTSIDE = -1002, NOT = -1003, FULL = -1004;
    private static final int LOW = Integer.MIN_VALUE, HIGH = Integer.MAX_VALUE;

    // The LEADS that bring a controller from STATE 1 to each other STATE.
    private static final String[] WAY_FROM_1 = {"111", "", "1", "10", "100", "101", "1010", "10101", "1011", "11",
        "110", "1100", "1101", "11010", "110101", "11011"};

    private interface Bench {
        ScanBench make();
    }

    private interface Call {
        int on(ScanBench x);
    }

    private interface Look {
        void at(ScanBench x, List<Integer> into);
    }

    /** Together they tell all that can be told of an object; each alone keeps under its 512 calls. */
    private static final Look[] LOOKS = {BoundsTest::lookAtLines, BoundsTest::lookAtRows, BoundsTest::lookAtWires,
        BoundsTest::lookAtTurned, BoundsTest::lookAtFirstTests, BoundsTest::lookAtLastTests};

    private static String sentence;
    private static int sentences = 0, wrong = 0;

    public static void main(String[] args) {
        head();
        partOne();
        partTwo();
        partThree();
        partFour();
        promisesOfCircuits();
        promisesOfChains();
        promisesOfTheController();
        promisesOfTests();
        System.out.println("BoundsTest: " + sentences + " sentences, " + wrong + " wrong answers");
        if (wrong != 0) {
            System.exit(1);
        }
    }

    private static void says(String words, Runnable test) {
        sentence = words;
        sentences++;
        test.run();
    }

    // ---- the sentences

    private static void head() {
        says("An object is used for at most 512 calls after it has been made", BoundsTest::lastCall);
        says("what has a number has it from 0 on, as it comes", BoundsTest::numbers);
        says("NONE is -1", BoundsTest::constants);
        says("REFUSALS, of several the first in this order", BoundsTest::orderOfRefusals);
        says("What is refused changes nothing", BoundsTest::farOut);
    }

    private static void partOne() {
        says("VALUES: 0, 1, 2 (not known)", BoundsTest::threeValues);
        says("LINES (80 at most)", BoundsTest::eightyLines);
        says("are INPUTS (8)", BoundsTest::eightInputs);
        says("and CELLS (20)", BoundsTest::twentyCells);
        says("OUTPUTS (8) are LINES that were told so", BoundsTest::eightOutputs);
        says("of an INPUT what it was set to (0 at first)", BoundsTest::inputsAtFirst);
        says("of a CELL what it HOLDS (2 at first)", BoundsTest::cellsAtFirst);
        says("of a GATE by those of its SOURCES, LINES made ahead of it", BoundsTest::madeAhead);
        says("OP 0 AND of two: 0, if one is 0; 1, if both are 1; else 2", () -> ofTwo(0, "000012022"));
        says("1 OR: 1, if one is 1; 0, if both are 0; else 2", () -> ofTwo(1, "012111212"));
        says("2 XOR: 2, if one is 2; else whether they are unlike", () -> ofTwo(2, "012102222"));
        says("3 NOT of the first: 2 of 2", () -> ofTwo(3, "111000222"));
        says("4 PICK of three", BoundsTest::pick);
        says("5 NAND, 6 NOR: NOT of 0, 1", BoundsTest::turnedOps);
        says("Of SOURCES that an OP does not have nothing is looked at", BoundsTest::sourcesNotHad);
        says("A LINE may be STUCK at 0 or 1, one at a time", BoundsTest::oneStuck);
        says("then its VALUE is that, whatever it is, and what it HOLDS if it is a CELL (which goes on all the same)",
            BoundsTest::stuckCell);
        says("A CELL has a DOMAIN (0 .. 2)", BoundsTest::threeDomains);
        says("and a SOURCE, any LINE, told later (itself at first)", BoundsTest::anySource);
        says("CLOCKED, a CELL HOLDS the VALUE of its SOURCE as it was ahead", BoundsTest::clockedAtOnce);
    }

    private static void partTwo() {
        says("CHAINS 0 .. 2 are rows of CELLS", BoundsTest::threeChains);
        says("a CELL is in one at most, and may be TURNED there", BoundsTest::inOneAtMost);
        says("its first CELL HOLDS that, each further one the VALUE of the one ahead of it as it was",
            BoundsTest::longestShift);
        says("a TURNED one holds NOT of what would come to it", BoundsTest::turnedShift);
        says("what comes OUT is the VALUE of the last one as it was", BoundsTest::lastComesOut);
        says("CELLS that are in no CHAIN that is SHIFTED stay", BoundsTest::othersStay);
        says("An empty CHAIN gives OUT what comes in", BoundsTest::emptyChains);
    }

    private static void partThree() {
        says("TICK by LEAD (0, 1) and IN (0, 1)", BoundsTest::leadAndIn);
        says("it goes on, by LEAD 0 or 1", BoundsTest::statesGoOn);
        says("It has an ORDER (0 .. 7)", BoundsTest::eightOrders);
        says("a ROW of 3 bits for the next one", BoundsTest::rowOfThree);
        says("one bit ASIDE", BoundsTest::oneAside);
        says("and a TAG of 16 bits", BoundsTest::tagRowOfSixteen);
        says("At first the STATE is 0, the ORDER 4, the ROW 0, ASIDE 0", BoundsTest::controllerAtFirst);
        says("0: the ORDER is 4", BoundsTest::restOrder);
        says("10: the ROW is 1", BoundsTest::caughtRow);
        says("3, by ORDERS 0 .. 2, 3: all CELLS are CLOCKED; by 4: the TAG's row is THE TAG",
            BoundsTest::catchByOrders);
        says("4: by 0 .. 2: that CHAIN is SHIFTED by IN", BoundsTest::shiftByOrders);
        says("by 3: CHAIN 0 by IN, CHAIN 1 by what comes OUT of that", BoundsTest::shiftThroughEmpty);
        says("In STATES 4 and 11 the answer of TICK is what goes OUT; in others NONE", BoundsTest::answersOfTick);
    }

    private static void partFour() {
        says("TESTS (20 at most)", BoundsTest::twentyTests);
        says("bits for INPUTS (bit k for INPUT k) and bits for CELLS (bit k for CELL k)", BoundsTest::bitOfEach);
        says("INPUTS are set by its bits", BoundsTest::inputsAreSet);
        says("then TICKS, with IN 0 where it is not told", BoundsTest::inIsZero);
        says("by LEAD 1 five times (to STATE 0)", BoundsTest::drivenFromAll);
        says("with C CELLS in all CHAINS, C ones by LEAD 0, the last of them by 1", BoundsTest::ticksOfDrives);
        says("each CELL of the CHAINS HOLDS its bit, if nothing is STUCK", BoundsTest::loadedBits);
        says("without CELLS in CHAINS one by LEAD 1, IN 0", BoundsTest::driveWithoutCells);
        says("Now OUTPUTS are SEEN", BoundsTest::outputsSeen);
        says("what goes OUT by them is SEEN, too", BoundsTest::outsSeen);
        says("DRIVEN from the same beginning (CELLS HOLD 2; the STATE 0, the ORDER 4)", BoundsTest::sameBeginning);
        says("something SEEN is known in both, and unlike", BoundsTest::knownInBoth);
    }

    private static void promisesOfCircuits() {
        says("Promise 1: A new object", BoundsTest::promise1);
        says("Promise 2: input. FULL", BoundsTest::promise2);
        says("Promise 3: gate. UNKNOWN, OUTSIDE, FULL", BoundsTest::promise3);
        says("Promise 4: cell. OUTSIDE, FULL", BoundsTest::promise4);
        says("Promise 5: source. UNKNOWN", BoundsTest::promise5);
        says("Promise 6: output. UNKNOWN, NOT, FULL", BoundsTest::promise6);
        says("Promise 7: count. OUTSIDE", BoundsTest::promise7);
        says("Promise 7: (those of shows(), covers(), same() do not count)", BoundsTest::ticksThatCount);
        says("Promise 8: line. UNKNOWN, OUTSIDE", BoundsTest::promise8);
        says("Promise 9: set. UNKNOWN, OUTSIDE", BoundsTest::promise9);
        says("Promise 10: hold. UNKNOWN, OUTSIDE", BoundsTest::promise10);
        says("Promise 11: clock. OUTSIDE", BoundsTest::promise11);
        says("Promise 12: stick. UNKNOWN, OUTSIDE", BoundsTest::promise12);
        says("Promise 12: with l = NONE nothing is (v is not looked at)", BoundsTest::stickNone);
    }

    private static void promisesOfChains() {
        says("Promise 13: chain. UNKNOWN, OUTSIDE, NOT", BoundsTest::promise13);
        says("Promise 13: at place i (0 .. as many as it has)", BoundsTest::placesOfChains);
        says("Promise 14: unchain. 0: it was in none. UNKNOWN", BoundsTest::promise14);
        says("Promise 15: link. NONE: there is none. UNKNOWN", BoundsTest::promise15);
        says("Promise 16: stitch", BoundsTest::promise16);
        says("Promise 17: shift. UNKNOWN, OUTSIDE (v)", BoundsTest::promise17);
    }

    private static void promisesOfTheController() {
        says("Promise 18: THE TAG (its lowest 16 bits)", BoundsTest::promise18);
        says("Promise 19: tick. OUTSIDE", BoundsTest::promise19);
        says("Promise 20: state. OUTSIDE", BoundsTest::promise20);
    }

    private static void promisesOfTests() {
        says("Promise 21: test. OUTSIDE, FULL", BoundsTest::promise21);
        says("Promise 22: drive. UNKNOWN", BoundsTest::promise22);
        says("Promise 23: seen. NONE: there was none such. OUTSIDE: which", BoundsTest::promise23);
        says("Promise 23: Of the latest drive() that was not refused", BoundsTest::latestDrive);
        says("Promise 24: shows. UNKNOWN, OUTSIDE", BoundsTest::promise24);
        says("Promise 24: Nothing is changed", BoundsTest::showsChangesNothing);
        says("Promise 25: shownBy. NONE. UNKNOWN, OUTSIDE", BoundsTest::promise25);
        says("Promise 26: covers", BoundsTest::promise26);
        says("Promise 27: same. UNKNOWN", BoundsTest::promise27);
        says("Promise 27: NOT: INPUTS and CELLS are more than 10 in all", BoundsTest::tenInAll);
        says("Promise 27: with nothing STUCK; nothing is changed", BoundsTest::sameChangesNothing);
    }

    // ---- what is due

    private static void due(String call, int got, int want) {
        if (got != want) {
            wrong++;
            System.out.println("[" + sentence + "] " + call + " answered " + got + ", due is " + want);
        }
    }

    private static void dueHeld(String when, ScanBench x, int... values) {
        for (int c = 0; c < values.length; c++) {
            int held = x.hold(c, 0);
            x.hold(c, held);
            due(when + ": CELL " + c + " HOLDS", held, values[c]);
        }
    }

    private static void dueLinks(ScanBench x, int k, int... cells) {
        for (int i = 0; i < cells.length; i++) {
            due("link(" + k + ", " + i + ")", x.link(k, i), cells[i]);
        }
        due("link(" + k + ", " + cells.length + ")", x.link(k, cells.length), NONE);
    }

    private static void dueSeen(String when, ScanBench x, int which, int... values) {
        for (int i = 0; i < values.length; i++) {
            due(when + ": seen(" + which + ", " + i + ")", x.seen(which, i), values[i]);
        }
        due(when + ": seen(" + which + ", " + values.length + ")", x.seen(which, values.length), NONE);
    }

    /** The call answers that, and whoever looks finds the object like a twin on which it was not called. */
    private static void keeps(String call, Bench bench, Call done, int want) {
        for (Look look : LOOKS) {
            ScanBench touched = bench.make();
            due(call, done.on(touched), want);
            dueAlike(call, look, touched, bench.make());
        }
    }

    private static void dueAlike(String call, Look look, ScanBench touched, ScanBench twin) {
        List<Integer> found = new ArrayList<>(), wanted = new ArrayList<>();
        look.at(touched, found);
        look.at(twin, wanted);
        if (!found.equals(wanted)) {
            wrong++;
            System.out.println("[" + sentence + "] " + call + " changed " + wanted + " to " + found);
        }
    }

    private static void lookAtLines(ScanBench x, List<Integer> into) {
        for (int what = 0; what <= 6; what++) {
            into.add(x.count(what));
        }
        for (int l = 0; l < x.count(0) && l < 80; l++) {
            into.add(x.line(l, 0));
            into.add(x.line(l, 1));
            into.add(x.line(l, 2));
        }
    }

    private static void lookAtRows(ScanBench x, List<Integer> into) {
        for (int what = 0; what <= 4; what++) {
            into.add(x.state(what));
        }
        for (int i = 0; i <= 20; i++) {
            into.add(x.link(0, i));
            into.add(x.link(1, i));
            into.add(x.link(2, i));
            into.add(x.seen(0, i));
            into.add(x.seen(1, i));
        }
        into.add(x.tag(0));
        for (int i = 0; i < 8; i++) {
            into.add(x.set(i, 0));
        }
        for (int c = 0; c < 20; c++) {
            into.add(x.hold(c, 0));
            into.add(x.source(c, 0));
        }
    }

    private static void lookAtWires(ScanBench x, List<Integer> into) {
        int lines = x.count(0);
        for (int v = 0; v < 2; v++) {
            for (int i = 0; i < 8; i++) {
                x.set(i, v);
            }
            for (int c = 0; c < 20; c++) {
                x.hold(c, v);
            }
            for (int l = 0; l < lines; l++) {
                into.add(x.line(l, 2));
            }
        }
        for (int domains = 1; domains < 8; domains *= 2) {
            into.add(x.clock(domains));
            for (int c = 0; c < 20; c++) {
                into.add(x.hold(c, 2));
            }
        }
    }

    private static void lookAtTurned(ScanBench x, List<Integer> into) {
        for (int c = 0; c < 20; c++) {
            x.hold(c, 0);
        }
        for (int k = 0; k < 3; k++) {
            into.add(x.shift(k, 0));
        }
        for (int c = 0; c < 20; c++) {
            into.add(x.hold(c, 0));
        }
        into.add(x.stitch());
    }

    private static void lookAtFirstTests(ScanBench x, List<Integer> into) {
        lookAtTests(x, 0, into);
    }

    private static void lookAtLastTests(ScanBench x, List<Integer> into) {
        lookAtTests(x, 10, into);
    }

    private static void lookAtTests(ScanBench x, int from, List<Integer> into) {
        x.stick(NONE, 0);
        for (int t = from; t < from + 10; t++) {
            into.add(x.drive(t));
            for (int i = 0; i < 8; i++) {
                into.add(x.seen(0, i));
            }
            for (int i = 0; i < 20; i++) {
                into.add(x.seen(1, i));
            }
        }
    }

    // ---- benches

    private static ScanBench empty() {
        return new ScanBench();
    }

    /** INPUTS, then CELLS of DOMAINS 0 1 2 0 .., then NOTs of LINE 0. */
    private static ScanBench lined(int inputs, int cells, int lines) {
        ScanBench x = new ScanBench();
        for (int i = 0; i < inputs; i++) {
            x.input();
        }
        for (int c = 0; c < cells; c++) {
            x.cell(c % 3);
        }
        for (int l = inputs + cells; l < lines; l++) {
            x.gate(3, 0, 0, 0);
        }
        return x;
    }

    private static void lead(ScanBench x, String leads) {
        for (int i = 0; i < leads.length(); i++) {
            x.tick(leads.charAt(i) - '0', 0);
        }
    }

    /** Leads the controller to STATE 1 with an ORDER. */
    private static void give(ScanBench x, int order) {
        lead(x, "11111" + "01100");
        x.tick(0, order & 1);
        x.tick(0, order >> 1 & 1);
        x.tick(1, order >> 2 & 1);
        lead(x, "10");
    }

    private static void hold(ScanBench x, int... values) {
        for (int c = 0; c < values.length; c++) {
            x.hold(c, values[c]);
        }
    }

    private static void outputs(ScanBench x, int... lines) {
        for (int l : lines) {
            x.output(l);
        }
    }

    /** Some of everything: INPUTS 0 .. 2, CELLS 0 .. 4 (LINES 3 .. 7), GATES 8 .. 10; CELL 4 is in no CHAIN. */
    private static ScanBench wired() {
        ScanBench x = lined(3, 5, 8);
        x.gate(0, 0, 3, 0);
        x.gate(2, 8, 4, 0);
        x.gate(4, 1, 9, 5);
        x.source(0, 9);
        x.source(1, 10);
        x.source(2, 0);
        x.source(3, 5);
        outputs(x, 10, 3, 7);
        x.chain(0, 0, 0, true);
        x.chain(0, 2, 1, false);
        x.chain(2, 1, 0, false);
        x.chain(2, 3, 0, true);
        x.test(5, 6);
        x.test(2, 9);
        return x;
    }

    /** In every row of the controller there is something, and a drive was SEEN. */
    private static ScanBench busyAt(int state, int order) {
        ScanBench x = wired();
        x.drive(0);
        x.tag(0xBEEF);
        lead(x, "11111" + "0100");
        give(x, 7);
        lead(x, "100");
        x.tick(1, 1);
        lead(x, "10");
        give(x, order);
        lead(x, WAY_FROM_1[state]);
        x.set(0, 2);
        x.set(1, 1);
        hold(x, 0, 1, 2, 1, 0);
        x.stick(8, 1);
        return x;
    }

    private static ScanBench busy() {
        return busyAt(4, 3);
    }

    /** As much as there may be of everything. */
    private static ScanBench full() {
        ScanBench x = lined(8, 20, 28);
        for (int l = 28; l < 80; l++) {
            x.gate(3, l - 28, 0, 0);
        }
        for (int c = 0; c < 20; c++) {
            x.source(c, 60 + c);
        }
        outputs(x, 0, 9, 29, 39, 49, 59, 69, 79);
        x.stitch();
        for (int t = 0; t < 20; t++) {
            x.test(255 - 7 * t, 0xFFFFF - 12345 * t);
        }
        x.drive(19);
        return x;
    }

    // ---- the head of the document

    private static void lastCall() {
        ScanBench x = new ScanBench();
        for (int n = 1; n < 512; n++) {
            due("call " + n + ", a TICK", x.tick(1, 0), NONE);
        }
        due("call 512, count(6)", x.count(6), 511);
        // 20 TESTS by 20 CELLS, driven to the last call
        ScanBench y = full();
        int calls = 28 + 52 + 20 + 8 + 1 + 20 + 1;
        for (int n = calls + 1; n < 512; n++) {
            due("call " + n + ", a drive", y.drive(n % 20), 63);
        }
        due("call 512, count(6)", y.count(6), 63 * (512 - calls));
    }

    private static void numbers() {
        ScanBench x = new ScanBench();
        due("the first LINE, an INPUT", x.input(), 0);
        due("the second LINE, a CELL", x.cell(1), 1);
        due("the third LINE, a GATE", x.gate(3, 0, 0, 0), 2);
        due("the fourth LINE, a CELL", x.cell(0), 3);
        due("the fifth LINE, an INPUT", x.input(), 4);
        due("the first INPUT", x.line(0, 1), 0);
        due("the second INPUT", x.line(4, 1), 1);
        due("the first CELL", x.line(1, 1), 0);
        due("the second CELL", x.line(3, 1), 1);
        due("the first TEST", x.test(0, 0), 0);
        due("the second TEST", x.test(0, 0), 1);
        ScanBench y = lined(0, 1, 1);
        due("a CELL as the first LINE", y.count(0), 1);
        due("its number", y.line(0, 1), 0);
        ScanBench z = lined(0, 2, 2);
        z.chain(0, 1, 0, false);
        due("the first CHAIN, its first place", z.link(0, 0), 1);
    }

    private static void constants() {
        due("NONE", ScanBench.NONE, -1);
        due("UNKNOWN", ScanBench.UNKNOWN, -1001);
        due("OUTSIDE", ScanBench.OUTSIDE, -1002);
        due("NOT", ScanBench.NOT, -1003);
        due("FULL", ScanBench.FULL, -1004);
    }

    /** Each pair of REFUSALS that one call may be due. */
    private static void orderOfRefusals() {
        Bench full = BoundsTest::full, busy = BoundsTest::busy;
        keeps("gate, UNKNOWN and FULL", full, x -> x.gate(0, 80, 0, 0), UNKNOWN);
        keeps("gate, OUTSIDE and FULL", full, x -> x.gate(7, 0, 0, 0), OUTSIDE);
        keeps("cell, OUTSIDE and FULL", full, x -> x.cell(3), OUTSIDE);
        keeps("output, UNKNOWN and FULL", full, x -> x.output(80), UNKNOWN);
        keeps("output, NOT and FULL", full, x -> x.output(79), NOT);
        keeps("line, UNKNOWN and OUTSIDE", busy, x -> x.line(11, 3), UNKNOWN);
        keeps("set, UNKNOWN and OUTSIDE", busy, x -> x.set(3, 3), UNKNOWN);
        keeps("hold, UNKNOWN and OUTSIDE", busy, x -> x.hold(5, 3), UNKNOWN);
        keeps("stick, UNKNOWN and OUTSIDE", busy, x -> x.stick(11, 2), UNKNOWN);
        keeps("chain, UNKNOWN, OUTSIDE and NOT", busy, x -> x.chain(3, 0, -1, false), UNKNOWN);
        keeps("chain, UNKNOWN and NOT", busy, x -> x.chain(3, 0, 0, false), UNKNOWN);
        keeps("chain, UNKNOWN and OUTSIDE", busy, x -> x.chain(1, 5, 1, false), UNKNOWN);
        keeps("chain, OUTSIDE and NOT", busy, x -> x.chain(1, 0, 1, false), OUTSIDE);
        keeps("shift, UNKNOWN and OUTSIDE", busy, x -> x.shift(3, 3), UNKNOWN);
        keeps("test, OUTSIDE and FULL", full, x -> x.test(256, 0), OUTSIDE);
        keeps("test, OUTSIDE and FULL", full, x -> x.test(0, 1 << 20), OUTSIDE);
        keeps("shows, UNKNOWN TEST and OUTSIDE", busy, x -> x.shows(2, 0, 2), UNKNOWN);
        keeps("shows, UNKNOWN LINE and OUTSIDE", busy, x -> x.shows(0, 11, 2), UNKNOWN);
        keeps("shownBy, UNKNOWN and OUTSIDE", busy, x -> x.shownBy(11, 2), UNKNOWN);
        keeps("same, UNKNOWN first LINE and NOT", full, x -> x.same(80, 0), UNKNOWN);
        keeps("same, UNKNOWN second LINE and NOT", full, x -> x.same(0, 80), UNKNOWN);
    }

    /** Numbers as far out as there are, wherever a number is told, on an empty and on a full object. */
    private static void farOut() {
        Bench[] benches = {BoundsTest::empty, BoundsTest::full};
        for (int far : new int[] {LOW, LOW + 1, -2, 80, HIGH - 1, HIGH}) {
            for (Bench bench : benches) {
                farOutOfCircuits(far, bench);
                farOutOfTheRest(far, bench);
            }
        }
    }

    private static void farOutOfCircuits(int far, Bench bench) {
        keeps("gate(0, " + far + ", 0, 0)", bench, x -> x.gate(0, far, 0, 0), UNKNOWN);
        keeps("gate(0, 0, " + far + ", 0)", bench, x -> x.gate(0, 0, far, 0), UNKNOWN);
        keeps("gate(4, 0, 0, " + far + ")", bench, x -> x.gate(4, 0, 0, far), UNKNOWN);
        keeps("gate(" + far + ", 0, 0, 0)", bench, x -> x.gate(far, 0, 0, 0), OUTSIDE);
        keeps("cell(" + far + ")", bench, x -> x.cell(far), OUTSIDE);
        keeps("source(" + far + ", 0)", bench, x -> x.source(far, 0), UNKNOWN);
        keeps("source(0, " + far + ")", bench, x -> x.source(0, far), UNKNOWN);
        keeps("output(" + far + ")", bench, x -> x.output(far), UNKNOWN);
        keeps("count(" + far + ")", bench, x -> x.count(far), OUTSIDE);
        keeps("line(" + far + ", 0)", bench, x -> x.line(far, 0), UNKNOWN);
        keeps("set(" + far + ", 0)", bench, x -> x.set(far, 0), UNKNOWN);
        keeps("hold(" + far + ", 0)", bench, x -> x.hold(far, 0), UNKNOWN);
        keeps("clock(" + far + ")", bench, x -> x.clock(far), OUTSIDE);
        keeps("stick(" + far + ", 0)", bench, x -> x.stick(far, 0), UNKNOWN);
    }

    private static void farOutOfTheRest(int far, Bench bench) {
        keeps("chain(" + far + ", 0, 0, true)", bench, x -> x.chain(far, 0, 0, true), UNKNOWN);
        keeps("chain(0, " + far + ", 0, true)", bench, x -> x.chain(0, far, 0, true), UNKNOWN);
        keeps("unchain(" + far + ")", bench, x -> x.unchain(far), UNKNOWN);
        keeps("link(" + far + ", 0)", bench, x -> x.link(far, 0), UNKNOWN);
        keeps("link(1, " + far + ")", bench, x -> x.link(1, far), NONE);
        keeps("shift(" + far + ", 0)", bench, x -> x.shift(far, 0), UNKNOWN);
        keeps("shift(0, " + far + ")", bench, x -> x.shift(0, far), OUTSIDE);
        keeps("tick(" + far + ", 0)", bench, x -> x.tick(far, 0), OUTSIDE);
        keeps("tick(0, " + far + ")", bench, x -> x.tick(0, far), OUTSIDE);
        keeps("state(" + far + ")", bench, x -> x.state(far), OUTSIDE);
        keeps("drive(" + far + ")", bench, x -> x.drive(far), UNKNOWN);
        keeps("seen(" + far + ", 0)", bench, x -> x.seen(far, 0), OUTSIDE);
        keeps("seen(0, " + far + ")", bench, x -> x.seen(0, far), NONE);
        keeps("seen(1, " + far + ")", bench, x -> x.seen(1, far), NONE);
        keeps("shows(" + far + ", 0, 0)", bench, x -> x.shows(far, 0, 0), UNKNOWN);
        keeps("shows(0, " + far + ", 0)", bench, x -> x.shows(0, far, 0), UNKNOWN);
        keeps("shownBy(" + far + ", 0)", bench, x -> x.shownBy(far, 0), UNKNOWN);
        keeps("same(" + far + ", 0)", bench, x -> x.same(far, 0), UNKNOWN);
        keeps("same(0, " + far + ")", bench, x -> x.same(0, far), UNKNOWN);
    }

    // ---- part 1

    private static void threeValues() {
        for (int v = 0; v <= 2; v++) {
            ScanBench x = lined(1, 1, 2);
            x.set(0, v);
            due("line(0, 2) behind set(0, " + v + ")", x.line(0, 2), v);
            x.hold(0, v);
            due("line(1, 2) behind hold(0, " + v + ")", x.line(1, 2), v);
            due("shift of an empty CHAIN by " + v, x.shift(0, v), v);
        }
        for (int v : new int[] {-1, 3}) {
            keeps("set(0, " + v + ")", BoundsTest::busy, x -> x.set(0, v), OUTSIDE);
            keeps("hold(0, " + v + ")", BoundsTest::busy, x -> x.hold(0, v), OUTSIDE);
            keeps("shift(0, " + v + ")", BoundsTest::busy, x -> x.shift(0, v), OUTSIDE);
        }
    }

    private static void eightyLines() {
        due("an INPUT as the 80th LINE", lined(7, 0, 79).input(), 79);
        due("a GATE as the 80th LINE", lined(8, 20, 79).gate(0, 78, 0, 0), 79);
        due("a CELL as the 80th LINE", lined(8, 19, 79).cell(2), 79);
        keeps("an INPUT as the 81st", () -> lined(7, 19, 80), x -> x.input(), FULL);
        keeps("a GATE as the 81st", () -> lined(7, 19, 80), x -> x.gate(0, 79, 0, 0), FULL);
        keeps("a CELL as the 81st", () -> lined(7, 19, 80), x -> x.cell(2), FULL);
        ScanBench x = lined(8, 20, 80);
        due("count(0)", x.count(0), 80);
        x.gate(3, 0, 0, 0);
        due("count(0) behind a refused GATE", x.count(0), 80);
        due("the 80th LINE", x.line(79, 0), 1);
        due("the 81st LINE", x.line(80, 0), UNKNOWN);
    }

    private static void eightInputs() {
        for (int n = 0; n < 8; n++) {
            ScanBench x = lined(n, 1, n + 1);
            due("input() with " + n, x.input(), n + 1);
            due("its number", x.line(n + 1, 1), n);
            due("count(1)", x.count(1), n + 1);
        }
        keeps("input() with 8", () -> lined(8, 1, 9), x -> x.input(), FULL);
        ScanBench y = lined(8, 0, 8);
        due("the last one", y.set(7, 1), 0);
        due("the last one", y.line(7, 2), 1);
        due("one behind it", y.set(8, 1), UNKNOWN);
        due("a GATE beside 8 INPUTS", y.gate(3, 7, 0, 0), 8);
        due("a CELL beside 8 INPUTS", y.cell(0), 9);
    }

    private static void twentyCells() {
        for (int n = 0; n < 20; n++) {
            ScanBench x = lined(1, n, n + 1);
            due("cell(2) with " + n, x.cell(2), n + 1);
            due("its number", x.line(n + 1, 1), n);
            due("count(2)", x.count(2), n + 1);
        }
        keeps("cell(2) with 20", () -> lined(1, 20, 21), x -> x.cell(2), FULL);
        ScanBench y = lined(0, 20, 20);
        due("the last one", y.hold(19, 1), 2);
        due("the last one", y.line(19, 2), 1);
        due("one behind it", y.hold(20, 1), UNKNOWN);
        due("a GATE beside 20 CELLS", y.gate(3, 19, 0, 0), 20);
        due("an INPUT beside 20 CELLS", y.input(), 21);
    }

    private static void eightOutputs() {
        ScanBench x = lined(3, 3, 10);
        for (int n = 0; n < 8; n++) {
            due("output(" + n + ")", x.output(n), n + 1);
        }
        due("the ninth", x.output(8), FULL);
        due("count(3)", x.count(3), 8);
        keeps("output(1) with 8", BoundsTest::full, y -> y.output(1), FULL);
        // the first and the last LINE of all
        ScanBench z = lined(8, 20, 80);
        due("output(79)", z.output(79), 1);
        due("output(0)", z.output(0), 2);
        z.test(1, 0);
        z.drive(0);
        dueSeen("the first and the last LINE", z, 0, 0, 1);
    }

    private static void inputsAtFirst() {
        ScanBench x = lined(8, 0, 8);
        for (int i = 0; i < 8; i++) {
            due("line(" + i + ", 2)", x.line(i, 2), 0);
            due("set(" + i + ", 1)", x.set(i, 1), 0);
        }
        // one that comes behind a drive that set all
        ScanBench y = lined(7, 0, 7);
        y.test(127, 0);
        y.drive(0);
        y.input();
        due("made behind a drive", y.line(7, 2), 0);
    }

    private static void cellsAtFirst() {
        ScanBench x = lined(0, 20, 20);
        for (int c = 0; c < 20; c++) {
            due("line(" + c + ", 2)", x.line(c, 2), 2);
            due("hold(" + c + ", 1)", x.hold(c, 1), 2);
        }
        ScanBench y = lined(1, 1, 2);
        y.source(0, 0);
        y.clock(7);
        y.cell(0);
        due("made behind a clock()", y.line(2, 2), 2);
        due("the one ahead of it", y.line(1, 2), 0);
    }

    private static void madeAhead() {
        for (int op = 0; op <= 6; op++) {
            int o = op;
            ScanBench x = lined(1, 1, 3);
            due("GATE of the LINE just ahead", x.gate(o, 2, 2, 2), 3);
            keeps("GATE of itself", () -> lined(1, 1, 3), y -> y.gate(o, 3, 0, 0), UNKNOWN);
            keeps("GATE of LINE -1", () -> lined(1, 1, 3), y -> y.gate(o, -1, 0, 0), UNKNOWN);
            keeps("GATE without LINES", BoundsTest::empty, y -> y.gate(o, 0, 0, 0), UNKNOWN);
        }
        // each GATE by the one just ahead of it, as many as there may be
        ScanBench z = lined(1, 0, 1);
        for (int l = 1; l < 80; l++) {
            z.gate(3, l - 1, 0, 0);
        }
        for (int l = 0; l < 80; l++) {
            due("line(" + l + ", 2)", z.line(l, 2), l & 1);
        }
        z.set(0, 2);
        due("the last one of one not known", z.line(79, 2), 2);
    }

    /** VALUES of a GATE by those of its SOURCES, 00 01 02 10 11 12 20 21 22. */
    private static void ofTwo(int op, String values) {
        ScanBench x = lined(2, 0, 2);
        x.gate(op, 0, 1, 0);
        x.gate(op, 0, 0, 0);
        for (int at = 0; at < 9; at++) {
            int a = at / 3, b = at % 3;
            x.set(0, a);
            x.set(1, b);
            due("OP " + op + " of " + a + ", " + b, x.line(2, 2), values.charAt(at) - '0');
            due("OP " + op + " of " + a + " twice", x.line(3, 2), values.charAt(4 * a) - '0');
        }
    }

    private static void pick() {
        // by the second and third one, 00 01 02 10 11 12 20 21 22
        String[] values = {"000111222", "012012012", "022212222"};
        ScanBench x = lined(3, 0, 3);
        x.gate(4, 0, 1, 2);
        for (int at = 0; at < 27; at++) {
            int a = at / 9, b = at / 3 % 3, c = at % 3;
            x.set(0, a);
            x.set(1, b);
            x.set(2, c);
            due("PICK of " + a + ", " + b + ", " + c, x.line(3, 2), values[a].charAt(at % 9) - '0');
        }
    }

    private static void turnedOps() {
        ofTwo(5, "111102122");
        ofTwo(6, "102000202");
    }

    private static void sourcesNotHad() {
        int[] had = {2, 2, 2, 1, 3, 2, 2};
        for (int op = 0; op <= 6; op++) {
            for (int far : new int[] {LOW, -1, 2, 80, HIGH}) {
                ScanBench x = lined(2, 0, 2);
                due("OP " + op + ", second one " + far, x.gate(op, 0, far, 0), had[op] >= 2 ? UNKNOWN : 2);
                ScanBench y = lined(2, 0, 2);
                due("OP " + op + ", third one " + far, y.gate(op, 0, 1, far), had[op] >= 3 ? UNKNOWN : 2);
                if (had[op] < 3) {
                    y.set(0, 1);
                    due("its VALUE", y.line(2, 2), new int[] {0, 1, 1, 0, 0, 1, 0}[op]);
                }
            }
        }
    }

    private static void oneStuck() {
        ScanBench x = lined(2, 0, 3);
        due("stick(0, 1)", x.stick(0, 1), 1);
        due("it", x.line(0, 2), 1);
        due("what comes by it", x.line(2, 2), 0);
        due("stick(1, 1)", x.stick(1, 1), 1);
        due("it", x.line(1, 2), 1);
        due("the one that was STUCK", x.line(0, 2), 0);
        due("what comes by that", x.line(2, 2), 1);
        due("stick(1, 0)", x.stick(1, 0), 1);
        due("the same one at 0", x.line(1, 2), 0);
        for (int v : new int[] {LOW, -1, 2, HIGH}) {
            keeps("stick(9, " + v + ")", BoundsTest::busy, y -> y.stick(9, v), OUTSIDE);
        }
        ScanBench z = lined(8, 20, 80);
        z.stick(79, 0);
        due("the last LINE", z.line(79, 2), 0);
        due("the one ahead of it", z.line(78, 2), 1);
        z.set(0, 2);
        due("the last LINE by one not known", z.line(79, 2), 0);
        z.stick(0, 0);
        due("the first LINE", z.line(0, 2), 0);
        due("the last LINE by it", z.line(79, 2), 1);
    }

    private static void stuckCell() {
        for (int v = 0; v < 2; v++) {
            for (int held = 0; held <= 2; held++) {
                ScanBench x = lined(1, 2, 3);
                x.source(1, 1);
                x.hold(0, held);
                x.stick(1, v);
                due("VALUE of the CELL", x.line(1, 2), v);
                x.clock(2);
                due("a CELL that has it as its SOURCE", x.line(2, 2), v);
                x.stick(NONE, 0);
                due("what it HOLDS goes on", x.line(1, 2), held);
                x.source(0, 0);
                x.stick(1, 1);
                x.clock(1);
                due("CLOCKED with 0 it is STUCK all the same", x.line(1, 2), 1);
                x.stick(NONE, 0);
                due("and HOLDS what it was CLOCKED with", x.line(1, 2), 0);
            }
        }
    }

    private static void threeDomains() {
        for (int d = 0; d <= 2; d++) {
            ScanBench x = new ScanBench();
            due("cell(" + d + ")", x.cell(d), 0);
            for (int mask = 0; mask < 8; mask++) {
                due("clock(" + mask + ") of DOMAIN " + d, x.clock(mask), mask >> d & 1);
            }
        }
        for (int d : new int[] {-1, 3}) {
            keeps("cell(" + d + ")", BoundsTest::empty, x -> x.cell(d), OUTSIDE);
            keeps("cell(" + d + ")", BoundsTest::busy, x -> x.cell(d), OUTSIDE);
        }
    }

    private static void anySource() {
        ScanBench x = lined(1, 2, 3);
        x.hold(0, 1);
        due("clock(1)", x.clock(1), 1);
        due("by itself", x.line(1, 2), 1);
        due("it had itself", x.source(0, 1), 1);
        due("it had itself", x.source(0, 0), 1);
        due("it had the first LINE", x.source(0, 2), 0);
        due("it had a later CELL", x.source(0, 2), 2);
        ScanBench y = lined(1, 20, 80);
        due("the last CELL, the last LINE", y.source(19, 79), 20);
        y.clock(7);
        due("the last CELL by the last LINE", y.line(20, 2), 1);
        due("the first CELL by itself", y.line(1, 2), 2);
    }

    private static void clockedAtOnce() {
        // a ring of all CELLS that there may be, ahead and back
        ScanBench x = lined(0, 20, 20);
        ScanBench y = lined(0, 20, 20);
        for (int c = 0; c < 20; c++) {
            x.source(c, (c + 1) % 20);
            y.source(c, (c + 19) % 20);
            x.hold(c, c % 3);
            y.hold(c, c % 3);
        }
        due("clock(7)", x.clock(7), 20);
        due("clock(7)", y.clock(7), 20);
        for (int c = 0; c < 20; c++) {
            due("by the one behind: CELL " + c, x.line(c, 2), (c + 1) % 20 % 3);
            due("by the one ahead: CELL " + c, y.line(c, 2), (c + 19) % 20 % 3);
        }
        // through a GATE that looks at both
        ScanBench z = lined(0, 2, 2);
        z.gate(2, 0, 1, 0);
        z.source(0, 2);
        z.source(1, 2);
        hold(z, 1, 0);
        z.clock(3);
        dueHeld("by one GATE", z, 1, 1);
        z.clock(3);
        dueHeld("by one GATE", z, 0, 0);
    }

    // ---- part 2

    private static void threeChains() {
        for (int k = 0; k <= 2; k++) {
            ScanBench x = lined(0, 2, 2);
            due("chain(" + k + ", 1, 0, false)", x.chain(k, 1, 0, false), 1);
            for (int other = 0; other <= 2; other++) {
                due("link(" + other + ", 0)", x.link(other, 0), other == k ? 1 : NONE);
            }
            x.hold(1, 1);
            due("shift(" + k + ", 0)", x.shift(k, 0), 1);
        }
        for (int k : new int[] {-1, 3}) {
            keeps("chain(" + k + ", 4, 0, false)", BoundsTest::busy, x -> x.chain(k, 4, 0, false), UNKNOWN);
            keeps("link(" + k + ", 0)", BoundsTest::busy, x -> x.link(k, 0), UNKNOWN);
            keeps("shift(" + k + ", 0)", BoundsTest::busy, x -> x.shift(k, 0), UNKNOWN);
        }
    }

    private static void inOneAtMost() {
        for (int k = 0; k <= 2; k++) {
            int to = k;
            keeps("chain(" + k + ", 0, 0, false)", BoundsTest::busy, x -> x.chain(to, 0, 0, false), NOT);
            keeps("chain(" + k + ", 1, 0, true)", BoundsTest::busy, x -> x.chain(to, 1, 0, true), NOT);
        }
        ScanBench x = lined(0, 1, 1);
        x.chain(0, 0, 0, true);
        x.shift(0, 0);
        due("TURNED", x.line(0, 2), 1);
        due("unchain(0)", x.unchain(0), 1);
        due("chain(1, 0, 0, false)", x.chain(1, 0, 0, false), 1);
        x.shift(1, 0);
        due("TURNED no more", x.line(0, 2), 0);
        due("the CHAIN where it was", x.link(0, 0), NONE);
        x.unchain(0);
        x.chain(2, 0, 0, true);
        x.shift(2, 0);
        due("TURNED again", x.line(0, 2), 1);
    }

    private static void longestShift() {
        // one CELL, and as many as there may be in one CHAIN
        for (int n : new int[] {1, 2, 20}) {
            ScanBench x = lined(0, n, n);
            for (int c = 0; c < n; c++) {
                x.chain(1, c, c, false);
                x.hold(c, c % 3);
            }
            due("shift(1, 1) of " + n, x.shift(1, 1), (n - 1) % 3);
            for (int c = 0; c < n; c++) {
                due("CELL " + c + " of " + n, x.line(c, 2), c == 0 ? 1 : (c - 1) % 3);
            }
        }
        // by the VALUE of one that is STUCK
        ScanBench y = lined(0, 3, 3);
        for (int c = 0; c < 3; c++) {
            y.chain(0, c, c, false);
        }
        hold(y, 0, 0, 0);
        y.stick(1, 1);
        due("shift(0, 2)", y.shift(0, 2), 0);
        y.stick(NONE, 0);
        dueHeld("behind a STUCK one", y, 2, 0, 1);
    }

    private static void turnedShift() {
        int[] turned = {1, 0, 2};
        for (int v = 0; v <= 2; v++) {
            ScanBench x = lined(0, 3, 3);
            x.chain(0, 0, 0, true);
            x.chain(0, 1, 1, true);
            x.chain(0, 2, 2, false);
            hold(x, v, v, v);
            due("shift(0, " + v + ")", x.shift(0, v), v);
            dueHeld("shifted by " + v, x, turned[v], turned[v], v);
        }
        // the last one TURNED, and STUCK: what comes OUT is not turned once more
        ScanBench y = lined(0, 1, 1);
        y.chain(2, 0, 0, true);
        y.stick(0, 1);
        due("shift(2, 1)", y.shift(2, 1), 1);
        due("shift(2, 0)", y.shift(2, 0), 1);
        y.stick(NONE, 0);
        due("what it HOLDS", y.line(0, 2), 1);
    }

    private static void lastComesOut() {
        for (int held = 0; held <= 2; held++) {
            for (int v = 0; v <= 2; v++) {
                ScanBench x = lined(0, 1, 1);
                x.chain(0, 0, 0, false);
                x.hold(0, held);
                due("shift(0, " + v + ") of one", x.shift(0, v), held);
                due("it HOLDS", x.line(0, 2), v);
            }
        }
        ScanBench y = lined(0, 20, 20);
        for (int c = 0; c < 20; c++) {
            y.chain(0, c, 0, false);
        }
        // CELL 0 is the last one
        for (int n = 0; n < 20; n++) {
            due("shift " + n + " of twenty", y.shift(0, n & 1), 2);
        }
        for (int n = 0; n < 20; n++) {
            due("shift " + n + " of twenty, what came in first", y.shift(0, 0), n & 1);
        }
        y.stick(0, 1);
        due("the last one STUCK", y.shift(0, 0), 1);
    }

    private static void othersStay() {
        for (int k = 0; k <= 2; k++) {
            ScanBench x = lined(0, 4, 4);
            for (int c = 0; c < 3; c++) {
                x.chain(c, c, 0, false);
            }
            hold(x, 0, 0, 0, 0);
            x.shift(k, 1);
            dueHeld("shift(" + k + ", 1)", x, k == 0 ? 1 : 0, k == 1 ? 1 : 0, k == 2 ? 1 : 0, 0);
        }
    }

    private static void emptyChains() {
        for (int k = 0; k <= 2; k++) {
            for (int v = 0; v <= 2; v++) {
                int at = k, by = v;
                keeps("shift(" + k + ", " + v + ")", BoundsTest::empty, x -> x.shift(at, by), v);
            }
            // one that was taken out leaves an empty one
            ScanBench y = lined(0, 1, 1);
            y.chain(k, 0, 0, true);
            y.unchain(0);
            due("shift(" + k + ", 1) behind an unchain()", y.shift(k, 1), 1);
            due("the CELL stays", y.line(0, 2), 2);
        }
        keeps("shift(1, 1) beside others", BoundsTest::busy, x -> x.shift(1, 1), 1);
    }

    // ---- part 3

    private static void leadAndIn() {
        for (int state = 0; state < 16; state++) {
            for (int order = 0; order < 8; order++) {
                refusedTicks(state, order);
            }
        }
    }

    private static void refusedTicks(int state, int order) {
        int[][] calls = {{-1, 0}, {2, 0}, {0, -1}, {1, 2}, {2, -1}};
        for (int[] c : calls) {
            String call = "tick(" + c[0] + ", " + c[1] + ") in STATE " + state + " by ORDER " + order;
            ScanBench x = busyAt(state, order);
            due("STATE", x.state(0), state);
            due(call, x.tick(c[0], c[1]), OUTSIDE);
            ScanBench twin = busyAt(state, order);
            twin.state(0);
            dueAlike(call, BoundsTest::lookAtRows, x, twin);
            ScanBench y = busyAt(state, order);
            due(call, y.tick(c[0], c[1]), OUTSIDE);
            dueAlike(call, BoundsTest::lookAtLines, y, busyAt(state, order));
        }
    }

    private static void statesGoOn() {
        int[][] next = {{1, 0}, {1, 2}, {3, 9}, {4, 5}, {4, 5}, {6, 8}, {6, 7}, {4, 8}, {1, 2}, {10, 0}, {11, 12},
            {11, 12}, {13, 15}, {13, 14}, {11, 15}, {1, 2}};
        for (int state = 0; state < 16; state++) {
            for (int order = 0; order < 8; order++) {
                for (int at = 0; at < 4; at++) {
                    ScanBench x = busyAt(state, order);
                    x.tick(at / 2, at % 2);
                    due("from STATE " + state + " by LEAD " + at / 2, x.state(0), next[state][at / 2]);
                }
            }
        }
    }

    private static void eightOrders() {
        ScanBench x = new ScanBench();
        for (int order = 0; order <= 7; order++) {
            give(x, order);
            due("ORDER", x.state(1), order);
            due("ROW", x.state(2), order);
            due("STATE", x.state(0), 1);
        }
        // four bits brought in: only the last three are the ORDER
        lead(x, "1100");
        x.tick(0, 1);
        x.tick(0, 0);
        x.tick(0, 1);
        x.tick(1, 1);
        lead(x, "10");
        due("ORDER of four bits", x.state(1), 6);
        // none brought in: what was caught
        lead(x, "1101" + "10");
        due("ORDER of no bits", x.state(1), 1);
    }

    private static void rowOfThree() {
        ScanBench x = new ScanBench();
        lead(x, "0110" + "0");
        int[] ins = {1, 1, 1, 1, 0, 0, 0, 0};
        int[] outs = {1, 0, 0, 1, 1, 1, 1, 0};
        int[] rows = {4, 6, 7, 7, 3, 1, 0, 0};
        for (int n = 0; n < ins.length; n++) {
            due("OUT " + n, x.tick(0, ins[n]), outs[n]);
            due("ROW " + n, x.state(2), rows[n]);
        }
        due("the ORDER stays", x.state(1), 4);
    }

    private static void oneAside() {
        for (int order = 5; order <= 7; order++) {
            ScanBench x = new ScanBench();
            give(x, order);
            lead(x, "100");
            due("ASIDE is 0", x.tick(0, 1), 0);
            due("ASIDE", x.state(3), 1);
            due("ASIDE is 1", x.tick(0, 1), 1);
            due("ASIDE", x.state(3), 1);
            due("ASIDE is 1", x.tick(0, 0), 1);
            due("ASIDE", x.state(3), 0);
            due("ASIDE is 0", x.tick(0, 0), 0);
        }
    }

    private static void tagRowOfSixteen() {
        ScanBench x = new ScanBench();
        x.tag(0x8002);
        lead(x, "0100");
        due("the row", x.state(4), 0x8002);
        for (int n = 0; n < 16; n++) {
            due("bit " + n + " of THE TAG", x.tick(0, n == 0 ? 1 : 0), n == 1 || n == 15 ? 1 : 0);
        }
        due("the row behind sixteen", x.state(4), 1);
        due("what came in first", x.tick(0, 1), 1);
        due("the highest bit", x.state(4), 0x8000);
        for (int n = 0; n < 20; n++) {
            x.tick(0, 1);
        }
        due("all bits", x.state(4), 0xFFFF);
        due("THE TAG stays", x.tag(0), 0x8002);
    }

    private static void controllerAtFirst() {
        ScanBench x = new ScanBench();
        int[] first = {0, 4, 0, 0, 0};
        for (int what = 0; what < 5; what++) {
            due("state(" + what + ")", x.state(what), first[what]);
        }
    }

    private static void restOrder() {
        for (int order = 0; order < 8; order++) {
            for (int lead = 0; lead < 2; lead++) {
                ScanBench x = new ScanBench();
                give(x, order);
                lead(x, "111");
                due("STATE", x.state(0), 0);
                due("ORDER as STATE 0 is come to", x.state(1), order);
                x.tick(lead, 0);
                due("ORDER behind what STATE 0 does", x.state(1), 4);
                due("the ROW stays", x.state(2), order);
            }
        }
    }

    private static void caughtRow() {
        for (int order = 0; order < 8; order++) {
            ScanBench x = new ScanBench();
            give(x, order);
            lead(x, "110");
            due("ROW ahead of it", x.state(2), order);
            x.tick(order & 1, 1);
            due("ROW", x.state(2), 1);
        }
    }

    private static void catchByOrders() {
        for (int order = 0; order < 8; order++) {
            for (int lead = 0; lead < 2; lead++) {
                ScanBench x = busyAt(3, order);
                x.stick(NONE, 0);
                for (int c = 0; c < 5; c++) {
                    x.source(c, 1);
                }
                hold(x, 0, 0, 0, 0, 0);
                int row = x.state(4);
                due("CATCH answers", x.tick(lead, 1), NONE);
                int all = order <= 3 ? 1 : 0, first = order <= 3 || order == 5 ? 1 : 0;
                dueHeld("ORDER " + order, x, first, all, all, first, all);
                due("the TAG's row by ORDER " + order, x.state(4), order == 4 ? 0xBEEF : row);
                due("ASIDE by ORDER " + order, x.state(3), order >= 6 ? 0 : 1);
            }
        }
    }

    private static void shiftByOrders() {
        for (int order = 0; order < 8; order++) {
            for (int in = 0; in < 2; in++) {
                ScanBench x = lined(0, 3, 3);
                x.stitch();
                x.tag(0x5554);
                lead(x, "0100");
                give(x, order);
                lead(x, "100");
                hold(x, 1 - in, 2, 1 - in);
                int out = order < 3 ? new int[] {1 - in, 2, 1 - in}[order] : order == 3 ? 1 - in : 0;
                due("ORDER " + order + " IN " + in, x.tick(0, in), out);
                due("CELL 0 by ORDER " + order, x.hold(0, 0), order == 0 || order == 3 ? in : 1 - in);
                due("CELL 1 by ORDER " + order, x.hold(1, 0), order == 1 ? in : order == 3 ? 1 - in : 2);
                due("CELL 2 by ORDER " + order, x.hold(2, 0), order == 2 ? in : order == 3 ? 2 : 1 - in);
                due("ASIDE by ORDER " + order, x.state(3), order >= 5 ? in : 0);
                // the drive through the TAG's row on the way brought zeros down from its top
                due("the TAG's row by ORDER " + order, x.state(4) >> 15, order == 4 ? in : 0);
            }
        }
    }

    private static void shiftThroughEmpty() {
        // which CHAINS have one CELL, by bits
        for (int mask = 0; mask < 8; mask++) {
            ScanBench x = lined(0, 3, 3);
            int n = 0;
            for (int k = 0; k < 3; k++) {
                if ((mask >> k & 1) == 1) {
                    x.chain(k, k, 0, false);
                    n++;
                }
            }
            give(x, 3);
            lead(x, "100");
            for (int i = 0; i < n; i++) {
                due("CHAINS " + mask + ", OUT " + i, x.tick(0, i & 1), 2);
            }
            for (int i = 0; i < n; i++) {
                due("CHAINS " + mask + ", what came in as " + i, x.tick(0, 1), i & 1);
            }
            due("CHAINS " + mask + ", the last IN", x.tick(0, 0), n == 0 ? 0 : 1);
        }
        // as many as there may be, in one CHAIN or over all
        for (int k = 0; k <= 3; k++) {
            ScanBench y = lined(0, 20, 20);
            for (int c = 0; c < 20; c++) {
                y.chain(k == 3 ? c % 3 : k, c, 0, false);
            }
            give(y, 3);
            lead(y, "100");
            for (int i = 0; i < 20; i++) {
                due("OUT " + i, y.tick(0, i % 3 == 0 ? 1 : 0), 2);
            }
            for (int i = 0; i < 20; i++) {
                due("what came in as " + i, y.tick(0, 0), i % 3 == 0 ? 1 : 0);
            }
        }
    }

    private static void answersOfTick() {
        for (int state = 0; state < 16; state++) {
            for (int order = 0; order < 8; order++) {
                ScanBench x = busyAt(state, order);
                // by 4 the lowest bit of THE TAG 0xBEEF that was caught on the way; by 6 and 7 that made ASIDE 0
                int[] outs = {2, 1, 1, 1, 1, 1, 0, 0};
                int want = state == 4 ? outs[order] : state == 11 ? 1 : NONE;
                due("TICK in STATE " + state + " by ORDER " + order, x.tick(0, 1), want);
            }
        }
    }

    // ---- part 4

    private static void twentyTests() {
        ScanBench x = lined(1, 1, 2);
        for (int t = 0; t < 20; t++) {
            due("test(1, 1)", x.test(1, 1), t);
            due("count(4)", x.count(4), t + 1);
        }
        due("the 21st", x.test(1, 1), FULL);
        due("count(4)", x.count(4), 20);
        due("the last one", x.drive(19), 25);
        due("one behind it", x.drive(20), UNKNOWN);
        keeps("test(0, 0) with 20", BoundsTest::full, y -> y.test(0, 0), FULL);
    }

    private static void bitOfEach() {
        ScanBench x = lined(8, 0, 8);
        for (int i = 0; i < 8; i++) {
            x.output(i);
            x.test(1 << i, 0);
        }
        for (int t = 0; t < 8; t++) {
            x.drive(t);
            for (int i = 0; i < 8; i++) {
                due("bit " + t + ", INPUT " + i, x.seen(0, i), i == t ? 1 : 0);
            }
        }
        // CELLS of one CHAIN by numbers: the last one goes OUT first
        ScanBench y = lined(0, 20, 20);
        for (int c = 0; c < 20; c++) {
            y.chain(0, c, c, false);
            y.test(0, 1 << c);
        }
        for (int t = 0; t < 20; t += 1) {
            y.drive(t);
            for (int i = 0; i < 20; i++) {
                due("bit " + t + ", CELL " + (19 - i), y.seen(1, i), 19 - i == t ? 1 : 0);
            }
        }
    }

    private static void inputsAreSet() {
        ScanBench x = lined(2, 0, 2);
        x.test(3, 0);
        x.test(0, 0);
        x.input();
        x.set(2, 1);
        x.drive(0);
        due("INPUT 0", x.line(0, 2), 1);
        due("INPUT 1", x.line(1, 2), 1);
        due("one that came behind the TEST", x.line(2, 2), 0);
        x.set(2, 2);
        x.drive(1);
        due("INPUT 0", x.line(0, 2), 0);
        due("one that was not known", x.line(2, 2), 0);
        ScanBench y = lined(8, 0, 8);
        y.test(255, 0);
        y.drive(0);
        for (int i = 0; i < 8; i++) {
            due("all bits, INPUT " + i, y.set(i, 0), 1);
        }
    }

    /** Where a drive begins in STATE 4, its first TICK brings something in. */
    private static void inIsZero() {
        ScanBench x = lined(0, 3, 3);
        x.stitch();
        x.test(0, 0);
        x.tag(0xFFFF);
        lead(x, "0100");
        x.drive(0);
        due("the TAG's row by ORDER 4", x.state(4), 0x7FFF);
        for (int order = 5; order <= 7; order++) {
            ScanBench y = new ScanBench();
            y.test(0, 0);
            give(y, order);
            lead(y, "100");
            y.tick(0, 1);
            due("ASIDE", y.state(3), 1);
            y.drive(0);
            due("ASIDE by ORDER " + order, y.state(3), 0);
        }
        // what it brings in behind what is SEEN
        ScanBench z = lined(0, 3, 3);
        z.stitch();
        z.test(0, 7);
        z.drive(0);
        dueHeld("behind it all", z, 0, 0, 0);
    }

    private static void drivenFromAll() {
        for (int state = 0; state < 16; state++) {
            for (int order = 0; order < 8; order++) {
                ScanBench x = busyAt(state, order);
                x.stick(NONE, 0);
                due("drive(1) from STATE " + state + " by ORDER " + order, x.drive(1), 31);
                due("STATE behind it", x.state(0), 1);
                due("ORDER behind it", x.state(1), 3);
                due("ROW behind it", x.state(2), 3);
                // INPUTS 0 1 0, CELLS 1 0 0 1: GATE 10 picks CELL 2, and CELL 0 is 1
                due("OUTPUT 0", x.seen(0, 0), 0);
                due("OUTPUT 1", x.seen(0, 1), 1);
            }
        }
    }

    private static void ticksOfDrives() {
        for (int n = 1; n <= 20; n++) {
            for (int k = 0; k <= 3; k++) {
                ScanBench x = lined(0, 20, 20);
                for (int c = 0; c < n; c++) {
                    x.chain(k == 3 ? c % 3 : k, c, 0, (c & 1) == 1);
                }
                x.test(0, 0);
                due("drive(0) with " + n, x.drive(0), 23 + 2 * n);
                due("count(6)", x.count(6), 23 + 2 * n);
                due("STATE", x.state(0), 1);
                due("the last one OUT", x.seen(1, n - 1) == NONE ? 0 : 1, 1);
                due("one behind it", x.seen(1, n), NONE);
            }
        }
    }

    /** As many CELLS as there may be, TURNED by bits, over the CHAINS. */
    private static void loadedBits() {
        int[] turns = {0, 0xFFFFF, 1, 0x80000, 0x5A5A5};
        for (int turned : turns) {
            for (int from = 0; from < 20; from += 4) {
                ScanBench x = lined(0, 20, 20);
                for (int c = 0; c < 20; c++) {
                    x.chain(c % 3, c, 0, (turned >> c & 1) == 1);
                }
                outputs(x, from, from + 1, from + 2, from + 3);
                int[] bits = {0, 0xFFFFF, 0x12345, 1 << from, 0xFFFFF ^ 8 << from};
                for (int t = 0; t < bits.length; t++) {
                    x.test(0, bits[t]);
                    x.drive(t);
                    for (int i = 0; i < 4; i++) {
                        due("TURNED " + turned + ", bits " + bits[t] + ", CELL " + (from + i), x.seen(0, i),
                            bits[t] >> from + i & 1);
                    }
                }
            }
        }
        // with one STUCK, IN is as if it were not
        ScanBench y = lined(0, 3, 3);
        for (int c = 0; c < 3; c++) {
            y.chain(0, c, c, false);
            y.output(c);
        }
        y.test(0, 7);
        y.stick(1, 0);
        y.drive(0);
        dueSeen("CELL 1 is STUCK at 0", y, 0, 1, 0, 0);
    }

    private static void driveWithoutCells() {
        // no CELLS at all, and CELLS in no CHAIN
        for (int cells : new int[] {0, 1, 20}) {
            ScanBench x = lined(1, cells, cells + 1);
            x.output(0);
            x.test(1, cells == 0 ? 0 : 1);
            due("drive(0)", x.drive(0), 25);
            due("count(6)", x.count(6), 25);
            dueSeen("OUTPUTS", x, 0, 1);
            dueSeen("the one that went OUT", x, 1, 0);
            int[] states = {1, 3, 3, 0, 0};
            for (int what = 0; what < 5; what++) {
                due("state(" + what + ") behind it", x.state(what), states[what]);
            }
        }
        // a CELL that is in none is CLOCKED, once ahead of what is SEEN and once behind that
        ScanBench y = lined(0, 1, 1);
        y.gate(3, 0, 0, 0);
        y.source(0, 1);
        y.output(0);
        y.test(0, 0);
        y.hold(0, 0);
        y.drive(0);
        due("CLOCKED once", y.seen(0, 0), 1);
        due("CLOCKED twice", y.line(0, 2), 0);
        // one that was in a CHAIN
        ScanBench z = lined(0, 1, 1);
        z.test(0, 1);
        z.chain(2, 0, 0, false);
        z.unchain(0);
        due("drive(0) behind an unchain()", z.drive(0), 25);
        due("it HOLDS what it did", z.line(0, 2), 2);
    }

    private static void outputsSeen() {
        ScanBench x = lined(1, 0, 1);
        x.test(1, 0);
        x.drive(0);
        dueSeen("without OUTPUTS", x, 0);
        ScanBench y = lined(1, 1, 10);
        for (int i = 0; i < 8; i++) {
            y.output(8 - i);
        }
        y.set(0, 2);
        y.test(0, 0);
        y.drive(0);
        dueSeen("eight OUTPUTS", y, 0, 1, 1, 1, 1, 1, 1, 1, 2);
        y.stick(8, 0);
        y.drive(0);
        dueSeen("eight OUTPUTS, one STUCK", y, 0, 0, 1, 1, 1, 1, 1, 1, 2);
    }

    private static void outsSeen() {
        // CELLS of three CHAINS, CLOCKED by what stays: bits 1 0 2
        ScanBench x = lined(1, 3, 4);
        x.source(0, 0);
        x.stitch();
        x.test(1, 4);
        x.drive(0);
        dueSeen("CHAINS of one", x, 1, 1, 0, 1);
        // TURNED ones turn what comes through them
        ScanBench y = lined(0, 3, 3);
        y.chain(0, 0, 0, true);
        y.chain(1, 1, 0, true);
        y.chain(2, 2, 0, true);
        y.test(0, 0);
        y.drive(0);
        dueSeen("all TURNED", y, 1, 0, 1, 0);
        dueHeld("IN 0 behind that", y, 1, 0, 1);
        // not known: a CELL outside of CHAINS goes into one by a CLOCK
        ScanBench z = lined(0, 2, 2);
        z.chain(0, 0, 0, false);
        z.source(0, 1);
        z.test(0, 1);
        z.drive(0);
        dueSeen("not known", z, 1, 2);
        ScanBench w = full();
        due("the 20th", w.seen(1, 19) == NONE ? 0 : 1, 1);
        due("the 21st", w.seen(1, 20), NONE);
    }

    private static void sameBeginning() {
        // CELL 0 in no CHAIN keeps what it HOLDS: 2 in both, whatever it HOLDS now
        for (int held = 0; held <= 2; held++) {
            ScanBench x = lined(1, 1, 2);
            x.gate(2, 0, 1, 0);
            x.output(2);
            x.test(1, 0);
            x.hold(0, held);
            due("shows(0, 0, 0)", x.shows(0, 0, 0), 0);
            due("shows(0, 2, 0)", x.shows(0, 2, 0), 0);
            x.drive(0);
            due("shows(0, 0, 0) behind a drive", x.shows(0, 0, 0), 0);
            due("what it HOLDS", x.line(1, 2), held);
        }
        // CELL 0 is AND of INPUT 0 and itself: 0 by 0, not known by 1, whatever was tried ahead of it
        ScanBench w = lined(1, 1, 2);
        w.gate(0, 0, 1, 0);
        w.gate(2, 0, 1, 0);
        w.source(0, 2);
        w.output(3);
        w.test(0, 0);
        for (int n = 0; n < 2; n++) {
            due("shows(0, 0, 1)", w.shows(0, 0, 1), 0);
            due("shows(0, 3, 1)", w.shows(0, 3, 1), 1);
            due("shows(0, 2, 1)", w.shows(0, 2, 1), 1);
            due("shownBy(0, 1)", w.shownBy(0, 1), NONE);
            due("covers()", w.covers(), 3);
            w.drive(0);
        }
        w.test(1, 0);
        w.drive(0);
        due("shows(1, 0, 0), not known without it", w.shows(1, 0, 0), 0);
        // from STATES in which a drive's first TICKS would do something
        for (int state = 0; state < 16; state++) {
            ScanBench y = busyAt(state, 3);
            ScanBench z = wired();
            due("covers() in STATE " + state, y.covers(), z.covers());
            for (int l = 0; l < 11; l++) {
                due("shows(1, " + l + ", 1) in STATE " + state, y.shows(1, l, 1), z.shows(1, l, 1));
            }
        }
    }

    private static void knownInBoth() {
        // known without, not known with it: INPUT 0 at 1 lets a CELL through that is not known
        ScanBench x = lined(1, 1, 2);
        x.gate(0, 0, 1, 0);
        x.output(2);
        x.test(0, 0);
        x.test(1, 0);
        due("known, then not", x.shows(0, 0, 1), 0);
        due("not known, then known", x.shows(1, 0, 0), 0);
        due("known, and alike", x.shows(0, 2, 0), 0);
        due("known, and unlike", x.shows(0, 2, 1), 1);
        // nothing is SEEN but the IN 0 of empty CHAINS
        ScanBench y = lined(1, 0, 1);
        y.test(1, 0);
        due("without OUTPUTS", y.shows(0, 0, 0), 0);
        y.output(0);
        due("with one", y.shows(0, 0, 0), 1);
        // only the last of eight OUTPUTS, only the first and the last one of twenty OUT
        ScanBench z = lined(8, 20, 28);
        outputs(z, 1, 2, 3, 4, 5, 6, 7, 0);
        z.gate(3, 0, 0, 0);
        z.gate(3, 1, 0, 0);
        for (int c = 0; c < 20; c++) {
            z.chain(0, c, c, false);
        }
        z.source(0, 28);
        z.source(19, 29);
        z.test(0, 0);
        due("by the last OUTPUT, and one OUT", z.shows(0, 0, 1), 1);
        due("by the last one OUT", z.shows(0, 28, 0), 1);
        due("by the first one OUT", z.shows(0, 29, 0), 1);
        due("by none", z.shows(0, 28, 1), 0);
    }

    // ---- promises 1 to 12

    private static void promise1() {
        for (int what = 0; what <= 6; what++) {
            due("count(" + what + ")", new ScanBench().count(what), 0);
        }
        ScanBench x = new ScanBench();
        for (int k = 0; k < 3; k++) {
            due("link(" + k + ", 0)", x.link(k, 0), NONE);
        }
        due("line(0, 0)", x.line(0, 0), UNKNOWN);
        due("drive(0)", x.drive(0), UNKNOWN);
        due("tag(1)", x.tag(1), 0);
        x.input();
        x.set(0, 1);
        due("nothing is STUCK", x.line(0, 2), 1);
        // objects do not look at one another
        ScanBench y = full();
        keeps("another object", BoundsTest::empty, z -> y.count(0), 80);
        due("its count(0)", y.count(0), 80);
    }

    private static void promise2() {
        due("input() of an empty one", new ScanBench().input(), 0);
        keeps("the ninth INPUT", () -> lined(8, 0, 8), x -> x.input(), FULL);
        keeps("the ninth INPUT as the 80th LINE", () -> lined(8, 0, 79), x -> x.input(), FULL);
        keeps("the first INPUT as the 81st LINE", () -> withoutInputs(), x -> x.input(), FULL);
        keeps("full", BoundsTest::full, x -> x.input(), FULL);
        ScanBench y = lined(8, 0, 8);
        y.input();
        due("the LINE behind a refused one", y.cell(0), 8);
    }

    private static ScanBench withoutInputs() {
        return lined(0, 1, 80);
    }

    private static void promise3() {
        for (int op = 0; op <= 6; op++) {
            due("gate(" + op + ", ..)", lined(1, 0, 1).gate(op, 0, 0, 0), 1);
        }
        keeps("gate(-1, ..)", BoundsTest::busy, x -> x.gate(-1, 0, 0, 0), OUTSIDE);
        keeps("gate(7, ..)", BoundsTest::busy, x -> x.gate(7, 0, 0, 0), OUTSIDE);
        int[] of = {2, 2, 2, 1, 3, 2, 2};
        for (int op = 0; op <= 6; op++) {
            int o = op;
            for (int l : new int[] {-1, 11}) {
                keeps("gate, first one", BoundsTest::busy, x -> x.gate(o, l, 0, 0), UNKNOWN);
                if (of[op] >= 2) {
                    keeps("gate, second one", BoundsTest::busy, x -> x.gate(o, 0, l, 0), UNKNOWN);
                }
                if (of[op] >= 3) {
                    keeps("gate, third one", BoundsTest::busy, x -> x.gate(o, 0, 0, l), UNKNOWN);
                }
            }
            due("gate(" + op + ", 10, 10, 10)", busy().gate(op, 10, 10, 10), 11);
            keeps("gate(" + op + ", ..) with 80", BoundsTest::full, x -> x.gate(o, 79, 79, 79), FULL);
        }
    }

    private static void promise4() {
        keeps("cell(-1)", BoundsTest::empty, x -> x.cell(-1), OUTSIDE);
        keeps("cell(3)", BoundsTest::empty, x -> x.cell(3), OUTSIDE);
        due("cell(0)", busy().cell(0), 11);
        due("cell(2)", busy().cell(2), 11);
        for (int d = 0; d <= 2; d++) {
            int domain = d;
            keeps("the 21st CELL", () -> lined(0, 20, 20), x -> x.cell(domain), FULL);
            keeps("the 21st CELL as the 80th LINE", () -> lined(0, 20, 79), x -> x.cell(domain), FULL);
            keeps("the first CELL as the 81st LINE", () -> lined(1, 0, 80), x -> x.cell(domain), FULL);
        }
        ScanBench y = lined(0, 20, 20);
        y.cell(0);
        due("the LINE behind a refused one", y.input(), 20);
    }

    private static void promise5() {
        due("the first CELL", busy().source(0, 0), 9);
        due("the last CELL", busy().source(4, 10), 7);
        keeps("source(-1, 0)", BoundsTest::busy, x -> x.source(-1, 0), UNKNOWN);
        keeps("source(5, 0)", BoundsTest::busy, x -> x.source(5, 0), UNKNOWN);
        keeps("source(0, -1)", BoundsTest::busy, x -> x.source(0, -1), UNKNOWN);
        keeps("source(0, 11)", BoundsTest::busy, x -> x.source(0, 11), UNKNOWN);
        keeps("source(5, 11)", BoundsTest::busy, x -> x.source(5, 11), UNKNOWN);
        keeps("source(0, 0) without CELLS", () -> lined(1, 0, 1), x -> x.source(0, 0), UNKNOWN);
        keeps("source(0, 0) without LINES", BoundsTest::empty, x -> x.source(0, 0), UNKNOWN);
        keeps("source(20, 0) with 20", BoundsTest::full, x -> x.source(20, 0), UNKNOWN);
        keeps("source(19, 80) with 80", BoundsTest::full, x -> x.source(19, 80), UNKNOWN);
        keeps("what it is already", BoundsTest::busy, x -> x.source(0, 9), 9);
    }

    private static void promise6() {
        keeps("output(-1)", BoundsTest::busy, x -> x.output(-1), UNKNOWN);
        keeps("output(11)", BoundsTest::busy, x -> x.output(11), UNKNOWN);
        keeps("output(0) without LINES", BoundsTest::empty, x -> x.output(0), UNKNOWN);
        keeps("output(10), the first one again", BoundsTest::busy, x -> x.output(10), NOT);
        keeps("output(7), the last one again", BoundsTest::busy, x -> x.output(7), NOT);
        due("output(0), the first LINE", busy().output(0), 4);
        due("output(9), the last that is none", busy().output(9), 4);
        keeps("the ninth", BoundsTest::full, x -> x.output(1), FULL);
        keeps("the ninth, the last LINE but one", BoundsTest::full, x -> x.output(78), FULL);
        ScanBench y = busy();
        y.output(10);
        due("count(3) behind a refused one", y.count(3), 3);
        due("the next one", y.output(8), 4);
    }

    private static void promise7() {
        int[] ofFull = {80, 8, 20, 8, 20, 20, 63};
        for (int what = 0; what <= 6; what++) {
            due("count(" + what + ") of a full one", full().count(what), ofFull[what]);
        }
        for (int what : new int[] {-1, 7}) {
            keeps("count(" + what + ")", BoundsTest::busy, x -> x.count(what), OUTSIDE);
            keeps("count(" + what + ")", BoundsTest::empty, x -> x.count(what), OUTSIDE);
        }
        ScanBench y = full();
        for (int c = 0; c < 20; c++) {
            due("count(5)", y.count(5), 20 - c);
            y.unchain(c);
        }
        due("count(5) with none", y.count(5), 0);
        y.stitch();
        due("count(5) with all", y.count(5), 20);
    }

    private static void ticksThatCount() {
        ScanBench x = wired();
        x.shows(0, 0, 0);
        x.covers();
        x.same(0, 1);
        x.shownBy(9, 0);
        due("none yet", x.count(6), 0);
        x.tick(0, 0);
        x.tick(1, 1);
        due("of tick()", x.count(6), 2);
        x.tick(2, 0);
        x.tick(0, 2);
        x.drive(2);
        due("of refused ones", x.count(6), 2);
        x.drive(0);
        due("of drive()", x.count(6), 2 + 31);
        x.shows(1, 3, 1);
        x.covers();
        x.same(3, 10);
        x.clock(7);
        x.shift(0, 1);
        due("of no others", x.count(6), 2 + 31);
    }

    private static void promise8() {
        int[][] want = {{0, 0, 2}, {2, 4, 0}, {1, 4, 2}};
        int[] lines = {0, 7, 10};
        for (int n = 0; n < 3; n++) {
            for (int what = 0; what <= 2; what++) {
                due("line(" + lines[n] + ", " + what + ")", busy().line(lines[n], what), want[n][what]);
            }
        }
        for (int what = -1; what <= 3; what++) {
            int w = what;
            keeps("line(-1, " + what + ")", BoundsTest::busy, x -> x.line(-1, w), UNKNOWN);
            keeps("line(11, " + what + ")", BoundsTest::busy, x -> x.line(11, w), UNKNOWN);
            keeps("line(80, " + what + ")", BoundsTest::full, x -> x.line(80, w), UNKNOWN);
            keeps("line(0, " + what + ")", BoundsTest::empty, x -> x.line(0, w), UNKNOWN);
        }
        for (int what : new int[] {LOW, -1, 3, HIGH}) {
            keeps("line(0, " + what + ")", BoundsTest::busy, x -> x.line(0, what), OUTSIDE);
            keeps("line(10, " + what + ")", BoundsTest::busy, x -> x.line(10, what), OUTSIDE);
        }
    }

    private static void promise9() {
        due("the first INPUT", busy().set(0, 0), 2);
        due("the last INPUT", busy().set(2, 2), 1);
        keeps("set(-1, 0)", BoundsTest::busy, x -> x.set(-1, 0), UNKNOWN);
        keeps("set(3, 0)", BoundsTest::busy, x -> x.set(3, 0), UNKNOWN);
        keeps("set(0, 0) without INPUTS", () -> lined(0, 3, 3), x -> x.set(0, 0), UNKNOWN);
        keeps("set(8, 0) with 8", BoundsTest::full, x -> x.set(8, 0), UNKNOWN);
        for (int v : new int[] {LOW, -1, 3, HIGH}) {
            keeps("set(0, " + v + ")", BoundsTest::busy, x -> x.set(0, v), OUTSIDE);
            keeps("set(2, " + v + ")", BoundsTest::busy, x -> x.set(2, v), OUTSIDE);
        }
        keeps("what it is already", BoundsTest::busy, x -> x.set(0, 2), 2);
    }

    private static void promise10() {
        due("the first CELL", busy().hold(0, 2), 0);
        due("the last CELL", busy().hold(4, 2), 0);
        keeps("hold(-1, 0)", BoundsTest::busy, x -> x.hold(-1, 0), UNKNOWN);
        keeps("hold(5, 0)", BoundsTest::busy, x -> x.hold(5, 0), UNKNOWN);
        keeps("hold(0, 0) without CELLS", () -> lined(3, 0, 5), x -> x.hold(0, 0), UNKNOWN);
        keeps("hold(20, 0) with 20", BoundsTest::full, x -> x.hold(20, 0), UNKNOWN);
        for (int v : new int[] {LOW, -1, 3, HIGH}) {
            keeps("hold(0, " + v + ")", BoundsTest::busy, x -> x.hold(0, v), OUTSIDE);
            keeps("hold(4, " + v + ")", BoundsTest::busy, x -> x.hold(4, v), OUTSIDE);
        }
        keeps("what it HOLDS already", BoundsTest::busy, x -> x.hold(2, 2), 2);
    }

    private static void promise11() {
        // of DOMAINS 0, 1 and 2 there are 7, 7 and 6 CELLS
        int[] many = {0, 7, 7, 14, 6, 13, 13, 20};
        for (int domains = 0; domains <= 7; domains++) {
            due("clock(" + domains + ")", full().clock(domains), many[domains]);
            due("clock(" + domains + ") without CELLS", new ScanBench().clock(domains), 0);
        }
        for (int domains : new int[] {LOW, -1, 8, 9, HIGH}) {
            keeps("clock(" + domains + ")", BoundsTest::busy, x -> x.clock(domains), OUTSIDE);
            keeps("clock(" + domains + ")", BoundsTest::empty, x -> x.clock(domains), OUTSIDE);
        }
        keeps("clock(0)", BoundsTest::busy, x -> x.clock(0), 0);
    }

    private static void promise12() {
        due("stick(0, 0), the first LINE", busy().stick(0, 0), 1);
        due("stick(10, 1), the last LINE", busy().stick(10, 1), 1);
        for (int v = -1; v <= 2; v++) {
            int at = v;
            keeps("stick(11, " + v + ")", BoundsTest::busy, x -> x.stick(11, at), UNKNOWN);
            keeps("stick(-2, " + v + ")", BoundsTest::busy, x -> x.stick(-2, at), UNKNOWN);
            keeps("stick(80, " + v + ")", BoundsTest::full, x -> x.stick(80, at), UNKNOWN);
            keeps("stick(0, " + v + ") without LINES", BoundsTest::empty, x -> x.stick(0, at), UNKNOWN);
        }
        keeps("stick(0, -1)", BoundsTest::busy, x -> x.stick(0, -1), OUTSIDE);
        keeps("stick(0, 2)", BoundsTest::busy, x -> x.stick(0, 2), OUTSIDE);
        keeps("stick(8, 2), the one that is STUCK", BoundsTest::busy, x -> x.stick(8, 2), OUTSIDE);
        keeps("stick(8, 1), as it is", BoundsTest::busy, x -> x.stick(8, 1), 1);
        // refused ahead of a LINE that comes later: it is not STUCK then
        ScanBench y = lined(1, 0, 1);
        y.stick(1, 1);
        y.input();
        due("the LINE that came later", y.line(1, 2), 0);
    }

    private static void stickNone() {
        for (int v : new int[] {LOW, -1, 0, 1, 2, HIGH}) {
            ScanBench x = busy();
            due("stick(NONE, " + v + ")", x.stick(NONE, v), 1);
            due("GATE 8 of 2 and 0", x.line(8, 2), 0);
            keeps("stick(NONE, " + v + ") without LINES", BoundsTest::empty, y -> y.stick(NONE, v), 1);
            keeps("stick(NONE, " + v + ") with nothing STUCK", BoundsTest::wired, y -> y.stick(NONE, v), 1);
        }
    }

    // ---- promises 13 to 17

    private static void promise13() {
        keeps("chain(-1, 4, 0, true)", BoundsTest::busy, x -> x.chain(-1, 4, 0, true), UNKNOWN);
        keeps("chain(3, 4, 0, true)", BoundsTest::busy, x -> x.chain(3, 4, 0, true), UNKNOWN);
        keeps("chain(0, -1, 0, true)", BoundsTest::busy, x -> x.chain(0, -1, 0, true), UNKNOWN);
        keeps("chain(0, 5, 0, true)", BoundsTest::busy, x -> x.chain(0, 5, 0, true), UNKNOWN);
        keeps("chain(0, 20, 0, true) with 20", BoundsTest::full, x -> x.chain(0, 20, 0, true), UNKNOWN);
        keeps("chain(0, 0, 0, true) without CELLS", BoundsTest::empty, x -> x.chain(0, 0, 0, true), UNKNOWN);
        int[] size = {2, 0, 2};
        for (int k = 0; k <= 2; k++) {
            int to = k, behind = size[k] + 1;
            keeps("chain(" + k + ", 4, -1, true)", BoundsTest::busy, x -> x.chain(to, 4, -1, true), OUTSIDE);
            keeps("chain(" + k + ", 4, " + behind + ", true)", BoundsTest::busy, x -> x.chain(to, 4, behind, true),
                OUTSIDE);
            keeps("chain(" + k + ", 4, LOW, true)", BoundsTest::busy, x -> x.chain(to, 4, LOW, true), OUTSIDE);
            keeps("chain(" + k + ", 4, HIGH, true)", BoundsTest::busy, x -> x.chain(to, 4, HIGH, true), OUTSIDE);
            for (int c = 0; c < 4; c++) {
                int cell = c;
                keeps("chain(" + k + ", " + c + ", 0, false)", BoundsTest::busy,
                    x -> x.chain(to, cell, 0, false), NOT);
            }
            keeps("chain(" + k + ", 19, 0, true) with all", BoundsTest::full, x -> x.chain(to, 19, 0, true), NOT);
        }
    }

    private static void placesOfChains() {
        ScanBench x = busy();
        due("at the first place", x.chain(0, 4, 0, false), 3);
        dueLinks(x, 0, 4, 0, 2);
        ScanBench y = busy();
        due("between", y.chain(0, 4, 1, false), 3);
        dueLinks(y, 0, 0, 4, 2);
        ScanBench z = busy();
        due("behind the last place", z.chain(0, 4, 2, false), 3);
        dueLinks(z, 0, 0, 2, 4);
        ScanBench w = busy();
        due("in an empty one", w.chain(1, 4, 0, false), 1);
        dueLinks(w, 1, 4);
        // as many as there may be, each at each end
        ScanBench v = lined(0, 20, 20);
        for (int c = 0; c < 20; c++) {
            due("chain of " + c, v.chain(2, c, (c & 1) == 0 ? c : 0, false), c + 1);
        }
        dueLinks(v, 2, 19, 17, 15, 13, 11, 9, 7, 5, 3, 1, 0, 2, 4, 6, 8, 10, 12, 14, 16, 18);
    }

    private static void promise14() {
        keeps("unchain(-1)", BoundsTest::busy, x -> x.unchain(-1), UNKNOWN);
        keeps("unchain(5)", BoundsTest::busy, x -> x.unchain(5), UNKNOWN);
        keeps("unchain(20) with 20", BoundsTest::full, x -> x.unchain(20), UNKNOWN);
        keeps("unchain(0) without CELLS", () -> lined(2, 0, 2), x -> x.unchain(0), UNKNOWN);
        keeps("unchain(4), in none", BoundsTest::busy, x -> x.unchain(4), 0);
        int[][] left = {{1, 2, 3}, {0, 2, 3}, {0, 1, 3}, {0, 1, 2}};
        for (int c = 0; c < 4; c++) {
            ScanBench x = lined(0, 4, 4);
            for (int i = 0; i < 4; i++) {
                x.chain(1, i, i, false);
            }
            due("unchain(" + c + ")", x.unchain(c), 1);
            dueLinks(x, 1, left[c]);
            due("unchain(" + c + ") again", x.unchain(c), 0);
            dueLinks(x, 1, left[c]);
            due("back at the end", x.chain(1, c, 3, false), 4);
        }
        ScanBench y = full();
        for (int c = 0; c < 20; c++) {
            due("unchain(" + c + ")", y.unchain(c), 1);
        }
        for (int k = 0; k < 3; k++) {
            dueLinks(y, k);
        }
    }

    private static void promise15() {
        int[] size = {2, 0, 2};
        for (int k = 0; k <= 2; k++) {
            int of = k, behind = size[k];
            keeps("link(" + k + ", -1)", BoundsTest::busy, x -> x.link(of, -1), NONE);
            keeps("link(" + k + ", " + behind + ")", BoundsTest::busy, x -> x.link(of, behind), NONE);
            keeps("link(" + k + ", LOW)", BoundsTest::busy, x -> x.link(of, LOW), NONE);
            keeps("link(" + k + ", HIGH)", BoundsTest::busy, x -> x.link(of, HIGH), NONE);
        }
        due("the first place", busy().link(2, 0), 3);
        due("the last place", busy().link(2, 1), 1);
        for (int i = -1; i <= 2; i++) {
            int place = i;
            keeps("link(-1, " + i + ")", BoundsTest::busy, x -> x.link(-1, place), UNKNOWN);
            keeps("link(3, " + i + ")", BoundsTest::busy, x -> x.link(3, place), UNKNOWN);
        }
        ScanBench y = lined(0, 20, 20);
        for (int c = 0; c < 20; c++) {
            y.chain(1, c, c, false);
        }
        due("the last place of twenty", y.link(1, 19), 19);
        due("the one behind it", y.link(1, 20), NONE);
    }

    private static void promise16() {
        keeps("without CELLS", () -> lined(3, 0, 5), x -> x.stitch(), 0);
        keeps("with all in CHAINS", BoundsTest::full, x -> x.stitch(), 0);
        ScanBench x = busy();
        due("with one in none", x.stitch(), 1);
        dueLinks(x, 0, 0, 2);
        dueLinks(x, 1, 4);
        dueLinks(x, 2, 3, 1);
        due("once more", x.stitch(), 0);
        ScanBench y = lined(0, 20, 20);
        due("with all in none", y.stitch(), 20);
        dueLinks(y, 0, 0, 3, 6, 9, 12, 15, 18);
        dueLinks(y, 1, 1, 4, 7, 10, 13, 16, 19);
        dueLinks(y, 2, 2, 5, 8, 11, 14, 17);
        // all of one DOMAIN, one of them in another CHAIN, TURNED
        ScanBench z = new ScanBench();
        for (int c = 0; c < 20; c++) {
            z.cell(2);
        }
        z.chain(0, 19, 0, true);
        due("all but one", z.stitch(), 19);
        dueLinks(z, 0, 19);
        due("the first one", z.link(2, 0), 0);
        due("the last one", z.link(2, 18), 18);
        due("one behind it", z.link(2, 19), NONE);
        z.unchain(19);
        due("that one, too", z.stitch(), 1);
        due("behind the others", z.link(2, 19), 19);
        for (int n = 0; n < 20; n++) {
            z.shift(2, 1);
        }
        due("not TURNED any more", z.line(19, 2), 1);
    }

    private static void promise17() {
        for (int v = -1; v <= 3; v++) {
            int by = v;
            keeps("shift(-1, " + v + ")", BoundsTest::busy, x -> x.shift(-1, by), UNKNOWN);
            keeps("shift(3, " + v + ")", BoundsTest::busy, x -> x.shift(3, by), UNKNOWN);
            keeps("shift(3, " + v + ") of an empty one", BoundsTest::empty, x -> x.shift(3, by), UNKNOWN);
        }
        for (int k = 0; k <= 2; k++) {
            int of = k;
            for (int v : new int[] {-1, 3, 4}) {
                keeps("shift(" + k + ", " + v + ")", BoundsTest::busy, x -> x.shift(of, v), OUTSIDE);
                keeps("shift(" + k + ", " + v + ")", BoundsTest::empty, x -> x.shift(of, v), OUTSIDE);
                keeps("shift(" + k + ", " + v + ")", BoundsTest::full, x -> x.shift(of, v), OUTSIDE);
            }
        }
        // CHAINS 0: CELLS 0' 2, 2: CELLS 3' 1; they HOLD 0 1 2 1 0
        ScanBench y = busy();
        due("shift(0, 2)", y.shift(0, 2), 2);
        due("shift(2, 0)", y.shift(2, 0), 1);
        dueHeld("behind both", y, 2, 1, 0, 1, 0);
    }

    // ---- promises 18 to 20

    private static void promise18() {
        int[] told = {0, 1, 32767, 32768, 65535, 65536, 65537, 131071, -1, -2, -32768, -65535, -65536, -65537, LOW,
            HIGH};
        int[] kept = {0, 1, 32767, 32768, 65535, 0, 1, 65535, 65535, 65534, 32768, 1, 0, 65535, 0, 65535};
        ScanBench x = new ScanBench();
        int was = 0;
        for (int n = 0; n < told.length; n++) {
            due("tag(" + told[n] + ")", x.tag(told[n]), was);
            was = kept[n];
        }
        due("the last one", x.tag(0), was);
        for (int n = 0; n < told.length; n++) {
            ScanBench y = new ScanBench();
            y.tag(told[n]);
            due("the row is not yet it", y.state(4), 0);
            lead(y, "0100");
            due("the TAG's row of " + told[n], y.state(4), kept[n]);
        }
    }

    private static void promise19() {
        for (int lead : new int[] {LOW, -1, 2, HIGH}) {
            for (int in = -1; in <= 2; in++) {
                int by = in;
                keeps("tick(" + lead + ", " + in + ")", BoundsTest::busy, x -> x.tick(lead, by), OUTSIDE);
                keeps("tick(" + lead + ", " + in + ")", BoundsTest::empty, x -> x.tick(lead, by), OUTSIDE);
            }
        }
        for (int in : new int[] {LOW, -1, 2, HIGH}) {
            for (int lead = 0; lead < 2; lead++) {
                int by = lead;
                keeps("tick(" + lead + ", " + in + ")", BoundsTest::busy, x -> x.tick(by, in), OUTSIDE);
                keeps("tick(" + lead + ", " + in + ")", BoundsTest::full, x -> x.tick(by, in), OUTSIDE);
            }
        }
        for (int at = 0; at < 4; at++) {
            due("a TICK", new ScanBench().tick(at / 2, at % 2), NONE);
        }
    }

    private static void promise20() {
        int[] want = {4, 3, 3, 1, 0xBEEF >> 1};
        for (int what = 0; what <= 4; what++) {
            due("state(" + what + ")", busy().state(what), want[what]);
        }
        for (int what : new int[] {-1, 5}) {
            keeps("state(" + what + ")", BoundsTest::busy, x -> x.state(what), OUTSIDE);
            keeps("state(" + what + ")", BoundsTest::empty, x -> x.state(what), OUTSIDE);
        }
    }

    // ---- promises 21 to 27

    private static void promise21() {
        due("all bits of 3 INPUTS", busy().test(7, 0), 2);
        due("all bits of 5 CELLS", busy().test(0, 31), 2);
        due("no bits", busy().test(0, 0), 2);
        for (int bits : new int[] {8, 9, 256, LOW, -1, -8, HIGH}) {
            keeps("test(" + bits + ", 0)", BoundsTest::busy, x -> x.test(bits, 0), OUTSIDE);
        }
        for (int bits : new int[] {32, 33, 1 << 20, LOW, -1, -32, HIGH}) {
            keeps("test(0, " + bits + ")", BoundsTest::busy, x -> x.test(0, bits), OUTSIDE);
        }
        keeps("test(1, 0) without LINES", BoundsTest::empty, x -> x.test(1, 0), OUTSIDE);
        keeps("test(0, 1) without LINES", BoundsTest::empty, x -> x.test(0, 1), OUTSIDE);
        due("test(0, 0) without LINES", new ScanBench().test(0, 0), 0);
        due("all bits of 8 INPUTS and 20 CELLS", lined(8, 20, 28).test(0xFF, 0xFFFFF), 0);
        keeps("one bit more", () -> lined(8, 20, 28), x -> x.test(0x100, 0xFFFFF), OUTSIDE);
        keeps("one bit more", () -> lined(8, 20, 28), x -> x.test(0xFF, 0x100000), OUTSIDE);
        keeps("the 21st", BoundsTest::full, x -> x.test(0xFF, 0xFFFFF), FULL);
        // bits of what came later
        ScanBench y = lined(1, 0, 1);
        due("test(2, 0)", y.test(2, 0), OUTSIDE);
        y.input();
        due("test(2, 0) with one INPUT more", y.test(2, 0), 0);
        due("test(2, 1)", y.test(2, 1), OUTSIDE);
        y.cell(0);
        due("test(2, 1) with a CELL", y.test(2, 1), 1);
    }

    private static void promise22() {
        keeps("drive(-1)", BoundsTest::busy, x -> x.drive(-1), UNKNOWN);
        keeps("drive(2)", BoundsTest::busy, x -> x.drive(2), UNKNOWN);
        keeps("drive(20) with 20", BoundsTest::full, x -> x.drive(20), UNKNOWN);
        keeps("drive(0) without TESTS", BoundsTest::empty, x -> x.drive(0), UNKNOWN);
        keeps("drive(0) without TESTS", () -> lined(8, 20, 80), x -> x.drive(0), UNKNOWN);
        due("drive(0), the first one", busy().drive(0), 31);
        due("drive(1), the last one", busy().drive(1), 31);
        due("drive(19) of 20", full().drive(19), 63);
        ScanBench y = new ScanBench();
        y.test(0, 0);
        due("drive(0) without LINES", y.drive(0), 25);
        dueSeen("without LINES", y, 0);
        dueSeen("without LINES", y, 1, 0);
    }

    private static void promise23() {
        for (int i = -1; i <= 1; i++) {
            int at = i;
            keeps("seen(0, " + i + ") ahead of drives", BoundsTest::wired, x -> x.seen(0, at), NONE);
            keeps("seen(1, " + i + ") ahead of drives", BoundsTest::wired, x -> x.seen(1, at), NONE);
        }
        for (int i : new int[] {LOW, -1, 3, 8, HIGH}) {
            keeps("seen(0, " + i + ") of 3 OUTPUTS", BoundsTest::busy, x -> x.seen(0, i), NONE);
        }
        for (int i : new int[] {LOW, -1, 4, 20, HIGH}) {
            keeps("seen(1, " + i + ") of 4 CELLS", BoundsTest::busy, x -> x.seen(1, i), NONE);
        }
        for (int i : new int[] {LOW, -1, 0, 2, 3, HIGH}) {
            keeps("seen(-1, " + i + ")", BoundsTest::busy, x -> x.seen(-1, i), OUTSIDE);
            keeps("seen(2, " + i + ")", BoundsTest::busy, x -> x.seen(2, i), OUTSIDE);
            keeps("seen(2, " + i + ") ahead of drives", BoundsTest::empty, x -> x.seen(2, i), OUTSIDE);
        }
        due("the eighth OUTPUT", full().seen(0, 7) >= 0 ? 1 : 0, 1);
        due("the ninth OUTPUT", full().seen(0, 8), NONE);
        due("the 20th one", full().seen(1, 19) >= 0 ? 1 : 0, 1);
        due("the 21st one", full().seen(1, 20), NONE);
    }

    private static void latestDrive() {
        ScanBench x = lined(1, 2, 3);
        outputs(x, 0, 1);
        x.stitch();
        x.test(1, 3);
        x.test(0, 0);
        x.drive(0);
        dueSeen("the first", x, 0, 1, 1);
        dueSeen("the first", x, 1, 1, 1);
        x.drive(2);
        x.drive(-1);
        dueSeen("behind refused ones", x, 0, 1, 1);
        dueSeen("behind refused ones", x, 1, 1, 1);
        x.set(0, 0);
        x.hold(0, 0);
        x.shows(1, 0, 1);
        x.covers();
        x.output(2);
        x.unchain(1);
        dueSeen("behind other calls", x, 0, 1, 1);
        dueSeen("behind other calls", x, 1, 1, 1);
        x.drive(1);
        // CELL 1 in no CHAIN HOLDS 0 by what it was unloaded with
        dueSeen("the latest, more OUTPUTS", x, 0, 0, 0, 0);
        dueSeen("the latest, fewer CELLS", x, 1, 0);
        x.unchain(0);
        x.drive(0);
        dueSeen("without CELLS in CHAINS", x, 1, 0);
    }

    private static void promise24() {
        for (int v = -1; v <= 2; v++) {
            int at = v;
            keeps("shows(-1, 0, " + v + ")", BoundsTest::busy, x -> x.shows(-1, 0, at), UNKNOWN);
            keeps("shows(2, 0, " + v + ")", BoundsTest::busy, x -> x.shows(2, 0, at), UNKNOWN);
            keeps("shows(0, -1, " + v + ")", BoundsTest::busy, x -> x.shows(0, -1, at), UNKNOWN);
            keeps("shows(0, 11, " + v + ")", BoundsTest::busy, x -> x.shows(0, 11, at), UNKNOWN);
            keeps("shows(20, 79, " + v + ")", BoundsTest::full, x -> x.shows(20, 79, at), UNKNOWN);
            keeps("shows(19, 80, " + v + ")", BoundsTest::full, x -> x.shows(19, 80, at), UNKNOWN);
            keeps("shows(0, 0, " + v + ") without TESTS", () -> lined(1, 0, 1), x -> x.shows(0, 0, at), UNKNOWN);
            keeps("shows(0, 0, " + v + ") without LINES", BoundsTest::empty, x -> x.shows(0, 0, at), UNKNOWN);
        }
        for (int v : new int[] {LOW, -1, 2, HIGH}) {
            keeps("shows(0, 0, " + v + ")", BoundsTest::busy, x -> x.shows(0, 0, v), OUTSIDE);
            keeps("shows(1, 10, " + v + ")", BoundsTest::busy, x -> x.shows(1, 10, v), OUTSIDE);
        }
        // by TEST 1 OUTPUT 0, LINE 10, is CELL 2, 0
        due("shows(1, 10, 0), the last TEST and LINE", busy().shows(1, 10, 0), 0);
        due("shows(1, 10, 1), the last TEST and LINE", busy().shows(1, 10, 1), 1);
        // LINE 0 of the full one is an OUTPUT; by TEST 0 it is 1
        due("shows(0, 0, 0), the first TEST and LINE", full().shows(0, 0, 0), 1);
        // LINE 79, an OUTPUT, is NOT NOT of CELL 15, whose bit in TEST 19 is 0
        due("shows(19, 79, 0), the last TEST and LINE", full().shows(19, 79, 0), 0);
        due("shows(19, 79, 1), the last TEST and LINE", full().shows(19, 79, 1), 1);
    }

    private static void showsChangesNothing() {
        for (int v = 0; v < 2; v++) {
            for (int l = 0; l < 11; l++) {
                int line = l, at = v;
                int want = wired().shows(1, l, v);
                keeps("shows(1, " + l + ", " + v + ")", BoundsTest::busy, x -> x.shows(1, line, at), want);
            }
            int at = v;
            keeps("shows(0, 79, " + v + ")", BoundsTest::full, x -> x.shows(0, 79, at), full().shows(0, 79, v));
        }
        keeps("shownBy(10, 1)", BoundsTest::busy, x -> x.shownBy(10, 1), wired().shownBy(10, 1));
        keeps("covers()", BoundsTest::busy, x -> x.covers(), wired().covers());
        keeps("covers()", BoundsTest::full, x -> x.covers(), full().covers());
    }

    private static void promise25() {
        for (int v = -1; v <= 2; v++) {
            int at = v;
            keeps("shownBy(-1, " + v + ")", BoundsTest::busy, x -> x.shownBy(-1, at), UNKNOWN);
            keeps("shownBy(11, " + v + ")", BoundsTest::busy, x -> x.shownBy(11, at), UNKNOWN);
            keeps("shownBy(80, " + v + ")", BoundsTest::full, x -> x.shownBy(80, at), UNKNOWN);
            keeps("shownBy(0, " + v + ") without LINES", BoundsTest::empty, x -> x.shownBy(0, at), UNKNOWN);
        }
        for (int v : new int[] {LOW, -1, 2, HIGH}) {
            keeps("shownBy(0, " + v + ")", BoundsTest::busy, x -> x.shownBy(0, v), OUTSIDE);
            keeps("shownBy(0, " + v + ") without TESTS", () -> lined(1, 0, 1), x -> x.shownBy(0, v), OUTSIDE);
        }
        keeps("shownBy(0, 0) without TESTS", () -> lined(1, 0, 1), x -> x.shownBy(0, 0), NONE);
        // only the first one, only the last one of twenty, two of them, none
        for (int t : new int[] {0, 7, 19}) {
            ScanBench y = oneOfTwenty(t);
            due("shownBy(0, 0), shown by " + t, y.shownBy(0, 0), t);
            due("shownBy(0, 1), shown by all others", y.shownBy(0, 1), t == 0 ? 1 : 0);
            due("shownBy(1, 0), LINE 1 is not SEEN", y.shownBy(1, 0), NONE);
        }
    }

    /** TEST t alone sets INPUT 0, the one OUTPUT. */
    private static ScanBench oneOfTwenty(int t) {
        ScanBench x = lined(2, 0, 2);
        x.output(0);
        for (int n = 0; n < 20; n++) {
            x.test(n == t ? 3 : 2, 0);
        }
        return x;
    }

    private static void promise26() {
        due("without LINES", new ScanBench().covers(), 0);
        due("without TESTS", lined(8, 20, 80).covers(), 0);
        ScanBench x = new ScanBench();
        x.test(0, 0);
        due("with a TEST, without LINES", x.covers(), 0);
        ScanBench y = lined(2, 0, 2);
        y.output(0);
        y.test(0, 0);
        due("one LINE at 1", y.covers(), 1);
        y.test(3, 0);
        due("one LINE at both", y.covers(), 2);
        y.output(1);
        due("both LINES at both", y.covers(), 4);
        y.test(3, 0);
        due("each once, by however many", y.covers(), 4);
        // only the last of twenty
        due("by the last of twenty, too", oneOfTwenty(19).covers(), 2);
        due("all LINES that there may be, at both", allSeen().covers(), 160);
    }

    /** 80 LINES, each of which comes to an OUTPUT or a CELL through NOTs: zeros and ones show all of them. */
    private static ScanBench allSeen() {
        ScanBench x = lined(8, 20, 28);
        for (int l = 28; l < 80; l++) {
            x.gate(3, l - 28, 0, 0);
        }
        for (int i = 0; i < 8; i++) {
            x.output(72 + i);
        }
        for (int c = 0; c < 20; c++) {
            x.source(c, 52 + c);
        }
        x.stitch();
        x.test(0, 0);
        x.test(0xFF, 0xFFFFF);
        return x;
    }

    private static void promise27() {
        keeps("same(-1, 0)", BoundsTest::busy, x -> x.same(-1, 0), UNKNOWN);
        keeps("same(0, -1)", BoundsTest::busy, x -> x.same(0, -1), UNKNOWN);
        keeps("same(11, 0)", BoundsTest::busy, x -> x.same(11, 0), UNKNOWN);
        keeps("same(0, 11)", BoundsTest::busy, x -> x.same(0, 11), UNKNOWN);
        keeps("same(0, 0) without LINES", BoundsTest::empty, x -> x.same(0, 0), UNKNOWN);
        keeps("same(80, 80) with 80", BoundsTest::full, x -> x.same(80, 80), UNKNOWN);
        due("a LINE and itself, one INPUT", lined(1, 0, 1).same(0, 0), 2);
        due("a LINE and its NOT, one INPUT", lined(1, 0, 2).same(0, 1), 0);
        due("a LINE and itself, one CELL", lined(0, 1, 1).same(0, 0), 2);
        due("two INPUTS", lined(2, 0, 2).same(0, 1), 2);
        due("an INPUT and a CELL", lined(1, 1, 2).same(0, 1), 2);
        due("the first and the last LINE of 80", lined(1, 1, 80).same(0, 79), 0);
        due("the last two LINES of 80", lined(1, 1, 80).same(79, 78), 4);
    }

    private static void tenInAll() {
        for (int inputs = 0; inputs <= 8; inputs++) {
            for (int cells = 9 - inputs; cells <= 11 - inputs; cells++) {
                int i = inputs, c = cells, all = inputs + cells;
                int alike = all > 10 ? NOT : 1 << all - 1;
                keeps("same(0, 1) by " + i + " and " + c, () -> lined(i, c, all), x -> x.same(0, 1), alike);
                int whole = all > 10 ? NOT : 1 << all;
                keeps("same of the last LINE by " + i + " and " + c, () -> lined(i, c, all),
                    x -> x.same(all - 1, all - 1), whole);
            }
        }
        due("with 20 CELLS", lined(0, 20, 20).same(0, 1), NOT);
        due("with as many as there may be", full().same(0, 0), NOT);
        // GATES are not counted
        due("ten, and 70 GATES", lined(8, 2, 80).same(10, 79), 1024);
        // AND of all ten is 1 in one combination only
        ScanBench y = lined(8, 2, 10);
        y.gate(0, 0, 1, 0);
        for (int l = 2; l < 10; l++) {
            y.gate(0, 8 + l, l, 0);
        }
        y.gate(2, 0, 0, 0);
        due("AND of all ten and 0", y.same(18, 19), 1023);
        due("0 and AND of all ten", y.same(19, 18), 1023);
    }

    private static void sameChangesNothing() {
        keeps("same(8, 10)", BoundsTest::busy, x -> x.same(8, 10), wired().same(8, 10));
        keeps("same(3, 9)", BoundsTest::busy, x -> x.same(3, 9), wired().same(3, 9));
        // GATE 8 is AND of INPUT 0 and CELL 0: like INPUT 0 in three of four, STUCK or not
        due("same(8, 0)", busy().same(8, 0), 192);
        for (int l = 0; l < 11; l++) {
            for (int v = 0; v < 2; v++) {
                ScanBench y = wired();
                y.stick(l, v);
                due("same(8, 0) with LINE " + l + " STUCK at " + v, y.same(8, 0), 192);
            }
        }
        ScanBench z = wired();
        due("shows(0, 8, 1)", z.shows(0, 8, 1), wired().shows(0, 8, 1));
        due("same(8, 0) behind a trial of LINE 8", z.same(8, 0), 192);
        z.same(0, 1);
        due("shows(0, 8, 1) behind same()", z.shows(0, 8, 1), wired().shows(0, 8, 1));
        keeps("same(0, 1) of a full one", BoundsTest::full, x -> x.same(0, 1), NOT);
    }
}
