import java.util.ArrayList;
import java.util.Arrays;
import java.util.List;
import java.util.Random;

/**
 * Chance runs of calls on a ScanBench and on a second reading of the document,
 * which is slow and made in another way. The seed is fixed, so every run is the same.
 */
public final class ModelTest {
    private static final int RUNS = 300, CALLS = 512;

    public static void main(String[] args) {
        int[] answered = new int[26];
        for (int run = 0; run < RUNS; run++) {
            if (!runOnce(run, answered)) {
                System.exit(1);
            }
        }
        for (int call = 0; call < 26; call++) {
            if (answered[call] < 50) {
                System.out.println("call " + call + " was answered only " + answered[call] + " times");
                System.exit(1);
            }
        }
        System.out.println("ModelTest: " + RUNS + " runs are as due");
    }

    private static boolean runOnce(int run, int[] answered) {
        Random chance = new Random(20261116L + run);
        ScanBench bench = new ScanBench();
        Model model = new Model();
        int building = 1 + chance.nextInt(120);
        int wild = chance.nextInt(3) == 0 ? 8 : 60;
        boolean small = chance.nextBoolean();
        List<String> told = new ArrayList<>();
        for (int n = 0; n < CALLS; n++) {
            int call = n < building ? pick(chance, 0, 0, 1, 1, 1, 1, 2, 2, 2, 3, 4, 11, 19) : chance.nextInt(26);
            boolean dear = call >= 22 && chance.nextInt(call == 24 ? 16 : 4) != 0;
            if (dear || small && call <= 2 && model.lines.size() >= 12) {
                call = pick(chance, 3, 7, 8, 9, 11, 15, 17, 20);
            }
            int[] a = arguments(chance, model, call, wild);
            int want = Model.ask(model, call, a);
            int got = askBench(bench, call, a);
            answered[call] += want >= -1 ? 1 : 0;
            told.add("call " + call + " of " + Arrays.toString(a) + " = " + want);
            if (got != want) {
                for (String line : told) {
                    System.out.println(line);
                }
                System.out.println("run " + run + ": the last one answered " + got);
                return false;
            }
        }
        return true;
    }

    private static int pick(Random chance, int... from) {
        return from[chance.nextInt(from.length)];
    }

    /** A number that is mostly inside 0 .. n - 1. */
    private static int near(Random chance, int n, int wild) {
        int at = chance.nextInt(wild);
        if (at == 0) {
            return pick(chance, -1, -2, n, n + 1, Integer.MAX_VALUE, Integer.MIN_VALUE);
        }
        return n <= 0 ? 0 : chance.nextInt(n);
    }

    private static int[] arguments(Random r, Model m, int call, int wild) {
        int lines = m.lines.size(), cells = m.cells.size(), ins = m.inputs.size(), tests = m.tests.size();
        switch (call) {
            case 0: return new int[0];
            case 1: return new int[] {near(r, 7, wild), near(r, lines, wild), near(r, lines, wild),
                near(r, lines, wild)};
            case 2: return new int[] {near(r, 3, wild)};
            case 3: return new int[] {near(r, cells, wild), near(r, lines, wild)};
            case 4: return new int[] {near(r, lines, wild)};
            case 5: return new int[] {near(r, 7, wild)};
            case 6: return new int[] {near(r, lines, wild), near(r, 3, wild)};
            case 7: return new int[] {near(r, ins, wild), near(r, 3, wild)};
            case 8: return new int[] {near(r, cells, wild), near(r, 3, wild)};
            case 9: return new int[] {near(r, 8, wild)};
            case 10: return new int[] {r.nextInt(3) == 0 ? -1 : near(r, lines, wild), near(r, 2, wild)};
            case 11: {
                int k = near(r, 3, wild);
                int n = k >= 0 && k < 3 ? m.chains.get(k).size() : 0;
                return new int[] {k, near(r, cells, wild), near(r, n + 1, wild), r.nextInt(2)};
            }
            case 12: return new int[] {near(r, cells, wild)};
            case 13: return new int[] {near(r, 3, wild), near(r, 8, wild)};
            case 14: return new int[0];
            case 15: return new int[] {near(r, 3, wild), near(r, 3, wild)};
            case 16: return new int[] {r.nextInt()};
            case 17: return new int[] {near(r, 2, wild), near(r, 2, wild)};
            case 18: return new int[] {near(r, 5, wild)};
            case 19: return new int[] {near(r, 1 << ins, wild), near(r, 1 << cells, wild)};
            case 20: return new int[] {near(r, tests, wild)};
            case 21: return new int[] {near(r, 2, wild), near(r, 8, wild)};
            case 22: return new int[] {near(r, tests, wild), near(r, lines, wild), near(r, 2, wild)};
            case 23: return new int[] {near(r, lines, wild), near(r, 2, wild)};
            case 24: return new int[0];
            default: return new int[] {near(r, lines, wild), near(r, lines, wild)};
        }
    }

    private static int askBench(ScanBench x, int call, int[] a) {
        switch (call) {
            case 0: return x.input();
            case 1: return x.gate(a[0], a[1], a[2], a[3]);
            case 2: return x.cell(a[0]);
            case 3: return x.source(a[0], a[1]);
            case 4: return x.output(a[0]);
            case 5: return x.count(a[0]);
            case 6: return x.line(a[0], a[1]);
            case 7: return x.set(a[0], a[1]);
            case 8: return x.hold(a[0], a[1]);
            case 9: return x.clock(a[0]);
            case 10: return x.stick(a[0], a[1]);
            case 11: return x.chain(a[0], a[1], a[2], a[3] == 1);
            case 12: return x.unchain(a[0]);
            case 13: return x.link(a[0], a[1]);
            case 14: return x.stitch();
            case 15: return x.shift(a[0], a[1]);
            case 16: return x.tag(a[0]);
            case 17: return x.tick(a[0], a[1]);
            case 18: return x.state(a[0]);
            case 19: return x.test(a[0], a[1]);
            case 20: return x.drive(a[0]);
            case 21: return x.seen(a[0], a[1]);
            case 22: return x.shows(a[0], a[1], a[2]);
            case 23: return x.shownBy(a[0], a[1]);
            case 24: return x.covers();
            default: return x.same(a[0], a[1]);
        }
    }

    /** A LINE of the second reading: it finds its VALUE by asking its SOURCES. */
    private static final class Line {
        int kind, number, domain, now;
        List<Integer> from = new ArrayList<>();

        Line copy() {
            Line c = new Line();
            c.kind = kind;
            c.number = number;
            c.domain = domain;
            c.now = now;
            c.from = new ArrayList<>(from);
            return c;
        }
    }

    private static final class Model {
        static final int UNKNOWN = -1001, OUTSIDE = -1002, NOT = -1003, FULL = -1004;
        static final String[] NEXT = {"1,0", "1,2", "3,9", "4,5", "4,5", "6,8", "6,7", "4,8", "1,2", "10,0", "11,12",
            "11,12", "13,15", "13,14", "11,15", "1,2"};

        List<Line> lines = new ArrayList<>();
        List<Integer> inputs = new ArrayList<>(), cells = new ArrayList<>(), outputs = new ArrayList<>();
        List<List<Integer>> chains = new ArrayList<>(List.of(new ArrayList<>(), new ArrayList<>(), new ArrayList<>()));
        List<Integer> turned = new ArrayList<>();
        List<int[]> tests = new ArrayList<>();
        List<Integer> seenOutputs = new ArrayList<>(), seenOuts = new ArrayList<>();
        int stuck = -1, stuckAt, state, order = 4, aside, tag, tagRow, ticks;
        int[] row = {0, 0, 0};

        Model copy() {
            Model m = new Model();
            for (Line l : lines) {
                m.lines.add(l.copy());
            }
            m.inputs.addAll(inputs);
            m.cells.addAll(cells);
            m.outputs.addAll(outputs);
            for (int k = 0; k < 3; k++) {
                m.chains.get(k).addAll(chains.get(k));
            }
            m.turned.addAll(turned);
            m.tests.addAll(tests);
            m.stuck = stuck;
            m.stuckAt = stuckAt;
            return m;
        }

        static boolean in(int n, int low, int high) {
            return low <= n && n <= high;
        }

        boolean isLine(int l) {
            return in(l, 0, lines.size() - 1);
        }

        boolean isCell(int c) {
            return in(c, 0, cells.size() - 1);
        }

        int[] values() {
            int[] known = new int[lines.size()];
            for (int l = 0; l < known.length; l++) {
                known[l] = l == stuck ? stuckAt : ownValue(lines.get(l), known);
            }
            return known;
        }

        /** A GATE is 0 or 1 if it is that for all that its unknown SOURCES could be, as far as the document says. */
        static int ownValue(Line l, int[] known) {
            if (l.kind != 1) {
                return l.now;
            }
            boolean can0 = false, can1 = false;
            int n = l.from.size();
            for (int bits = 0; bits < 1 << n; bits++) {
                boolean fits = true;
                for (int i = 0; i < n; i++) {
                    int v = known[l.from.get(i)];
                    fits &= v == 2 || v == (bits >> i & 1);
                }
                int a = bits & 1, b = bits >> 1 & 1, c = bits >> 2 & 1;
                int[] byOp = {a & b, a | b, a ^ b, 1 - a, a == 0 ? b : c, 1 - (a & b), 1 - (a | b)};
                can0 |= fits && byOp[l.number] == 0;
                can1 |= fits && byOp[l.number] == 1;
            }
            return can0 && can1 ? 2 : can1 ? 1 : 0;
        }

        Line cell(int c) {
            return lines.get(cells.get(c));
        }

        int clockWhere(int domains) {
            int[] was = values();
            int n = 0;
            for (int c : cells) {
                Line l = lines.get(c);
                if ((domains & 1 << l.domain) != 0) {
                    l.now = was[l.from.get(0)];
                    n++;
                }
            }
            return n;
        }

        int shiftAlong(List<Integer> row, int v) {
            int[] was = new int[lines.size()];
            for (int c : cells) {
                was[c] = c == stuck ? stuckAt : lines.get(c).now;
            }
            for (int i = 0; i < row.size(); i++) {
                int comes = i == 0 ? v : was[cells.get(row.get(i - 1))];
                boolean turns = turned.contains(row.get(i));
                cell(row.get(i)).now = turns && comes != 2 ? 1 - comes : comes;
            }
            return row.isEmpty() ? v : was[cells.get(row.get(row.size() - 1))];
        }

        List<Integer> allChained() {
            List<Integer> all = new ArrayList<>(chains.get(0));
            all.addAll(chains.get(1));
            all.addAll(chains.get(2));
            return all;
        }

        int doTick(int lead, int in) {
            int out = -1;
            if (state == 0) {
                order = 4;
            } else if (state == 3) {
                catchNow();
            } else if (state == 4) {
                out = shiftNow(in);
            } else if (state == 10) {
                row = new int[] {1, 0, 0};
            } else if (state == 11) {
                out = row[0];
                row = new int[] {row[1], row[2], in};
            } else if (state == 15) {
                order = row[0] + 2 * row[1] + 4 * row[2];
            }
            state = Integer.parseInt(NEXT[state].split(",")[lead]);
            ticks++;
            return out;
        }

        void catchNow() {
            if (order <= 3) {
                clockWhere(7);
            } else if (order == 4) {
                tagRow = tag;
            } else if (order == 5) {
                clockWhere(1);
            } else {
                aside = 0;
            }
        }

        int shiftNow(int in) {
            int out;
            if (order <= 2) {
                return shiftAlong(chains.get(order), in);
            }
            if (order == 3) {
                return shiftAlong(allChained(), in);
            }
            if (order == 4) {
                out = tagRow % 2;
                tagRow = tagRow / 2 + 32768 * in;
                return out;
            }
            out = aside;
            aside = in;
            return out;
        }

        int doDrive(int t) {
            int before = ticks;
            for (int i = 0; i < inputs.size(); i++) {
                lines.get(inputs.get(i)).now = tests.get(t)[0] >> i & 1;
            }
            follow("1 1 1 1 1 0 1 1 0 0 01 01 10 1 1 0 0");
            int[] loads = loadsFor(tests.get(t)[1]);
            for (int i = 0; i < loads.length; i++) {
                doTick(i + 1 < loads.length ? 0 : 1, loads[i]);
            }
            follow("1 1 0");
            seenOutputs.clear();
            seenOuts.clear();
            int[] was = values();
            for (int l : outputs) {
                seenOutputs.add(was[l]);
            }
            follow("0");
            for (int i = 0; i < loads.length; i++) {
                seenOuts.add(doTick(i + 1 < loads.length ? 0 : 1, 0));
            }
            follow("1 0");
            return ticks - before;
        }

        void follow(String leads) {
            for (String s : leads.split(" ")) {
                doTick(s.charAt(0) - '0', s.length() > 1 ? s.charAt(1) - '0' : 0);
            }
        }

        /** Loads zeros into a sound copy, and sends ones where that leaves a CELL unlike its bit. */
        int[] loadsFor(int bits) {
            List<Integer> all = allChained();
            if (all.isEmpty()) {
                return new int[] {0};
            }
            Model sound = copy();
            sound.stuck = -1;
            for (int i = 0; i < all.size(); i++) {
                sound.shiftAlong(all, 0);
            }
            int[] loads = new int[all.size()];
            for (int p = 0; p < loads.length; p++) {
                int c = all.get(p);
                loads[loads.length - 1 - p] = sound.cell(c).now == (bits >> c & 1) ? 0 : 1;
            }
            return loads;
        }

        List<Integer> seenWith(int t, int l, int v) {
            Model m = copy();
            m.stuck = l;
            m.stuckAt = v;
            for (int c : m.cells) {
                m.lines.get(c).now = 2;
            }
            m.doDrive(t);
            List<Integer> all = new ArrayList<>(m.seenOutputs);
            all.addAll(m.seenOuts);
            return all;
        }

        boolean doesShow(int t, int l, int v) {
            List<Integer> without = seenWith(t, -1, 0), with = seenWith(t, l, v);
            for (int i = 0; i < without.size(); i++) {
                if (without.get(i) + with.get(i) == 1) {
                    return true;
                }
            }
            return false;
        }

        int firstToShow(int l, int v) {
            for (int t = 0; t < tests.size(); t++) {
                if (doesShow(t, l, v)) {
                    return t;
                }
            }
            return -1;
        }

        int alike(int l, int m) {
            Model c = copy();
            c.stuck = -1;
            List<Integer> free = new ArrayList<>(inputs);
            free.addAll(cells);
            int n = 0;
            for (int bits = 0; bits < 1 << free.size(); bits++) {
                for (int i = 0; i < free.size(); i++) {
                    c.lines.get(free.get(i)).now = bits >> i & 1;
                }
                int[] v = c.values();
                n += v[l] == v[m] && v[l] != 2 ? 1 : 0;
            }
            return n;
        }

        int newLine(int kind, int number, int domain, int now) {
            Line l = new Line();
            l.kind = kind;
            l.number = number;
            l.domain = domain;
            l.now = now;
            lines.add(l);
            return lines.size() - 1;
        }

        static int ask(Model m, int call, int[] a) {
            if (call <= 4) {
                return m.askMaking(call, a);
            }
            if (call <= 10) {
                return m.askCircuit(call, a);
            }
            return call <= 15 ? m.askChains(call, a) : call <= 18 ? m.askController(call, a) : m.askTests(call, a);
        }

        int askMaking(int call, int[] a) {
            boolean full = lines.size() == 80;
            if (call == 0) {
                if (full || inputs.size() == 8) {
                    return FULL;
                }
                inputs.add(newLine(0, inputs.size(), 0, 0));
                return lines.size() - 1;
            }
            if (call == 1) {
                int n = in(a[0], 0, 6) ? new int[] {2, 2, 2, 1, 3, 2, 2}[a[0]] : 0;
                for (int i = 1; i <= n; i++) {
                    if (!isLine(a[i])) {
                        return UNKNOWN;
                    }
                }
                if (n == 0 || full) {
                    return n == 0 ? OUTSIDE : FULL;
                }
                int l = newLine(1, a[0], 0, 0);
                for (int i = 1; i <= n; i++) {
                    lines.get(l).from.add(a[i]);
                }
                return l;
            }
            if (call == 2) {
                if (!in(a[0], 0, 2)) {
                    return OUTSIDE;
                }
                if (full || cells.size() == 20) {
                    return FULL;
                }
                int l = newLine(2, cells.size(), a[0], 2);
                lines.get(l).from.add(l);
                cells.add(l);
                return l;
            }
            if (call == 3) {
                return !isCell(a[0]) || !isLine(a[1]) ? UNKNOWN : cell(a[0]).from.set(0, a[1]);
            }
            if (!isLine(a[0])) {
                return UNKNOWN;
            }
            if (outputs.contains(a[0])) {
                return NOT;
            }
            if (outputs.size() == 8) {
                return FULL;
            }
            outputs.add(a[0]);
            return outputs.size();
        }

        int askCircuit(int call, int[] a) {
            if (call == 5) {
                int[] counts = {lines.size(), inputs.size(), cells.size(), outputs.size(), tests.size(),
                    allChained().size(), ticks};
                return in(a[0], 0, 6) ? counts[a[0]] : OUTSIDE;
            }
            if (call == 6) {
                if (!isLine(a[0])) {
                    return UNKNOWN;
                }
                Line l = lines.get(a[0]);
                return in(a[1], 0, 2) ? new int[] {l.kind, l.number, values()[a[0]]}[a[1]] : OUTSIDE;
            }
            if (call == 7 || call == 8) {
                List<Integer> among = call == 7 ? inputs : cells;
                if (!in(a[0], 0, among.size() - 1)) {
                    return UNKNOWN;
                }
                if (!in(a[1], 0, 2)) {
                    return OUTSIDE;
                }
                Line l = lines.get(among.get(a[0]));
                int was = l.now;
                l.now = a[1];
                return was;
            }
            if (call == 9) {
                return in(a[0], 0, 7) ? clockWhere(a[0]) : OUTSIDE;
            }
            if (a[0] != -1 && !isLine(a[0])) {
                return UNKNOWN;
            }
            if (a[0] != -1 && !in(a[1], 0, 1)) {
                return OUTSIDE;
            }
            stuck = a[0];
            stuckAt = a[1];
            return 1;
        }

        int askChains(int call, int[] a) {
            if (call == 11) {
                if (!in(a[0], 0, 2) || !isCell(a[1])) {
                    return UNKNOWN;
                }
                List<Integer> to = chains.get(a[0]);
                if (!in(a[2], 0, to.size())) {
                    return OUTSIDE;
                }
                if (allChained().contains(a[1])) {
                    return NOT;
                }
                to.add(a[2], a[1]);
                if (a[3] == 1) {
                    turned.add(a[1]);
                }
                return to.size();
            }
            if (call == 12) {
                if (!isCell(a[0])) {
                    return UNKNOWN;
                }
                turned.remove((Integer) a[0]);
                boolean was = false;
                for (List<Integer> row : chains) {
                    was |= row.remove((Integer) a[0]);
                }
                return was ? 1 : 0;
            }
            if (call == 14) {
                int n = 0;
                for (int c = 0; c < cells.size(); c++) {
                    if (!allChained().contains(c)) {
                        chains.get(cell(c).domain).add(c);
                        n++;
                    }
                }
                return n;
            }
            if (!in(a[0], 0, 2)) {
                return UNKNOWN;
            }
            List<Integer> row = chains.get(a[0]);
            if (call == 13) {
                return in(a[1], 0, row.size() - 1) ? row.get(a[1]) : -1;
            }
            return in(a[1], 0, 2) ? shiftAlong(row, a[1]) : OUTSIDE;
        }

        int askController(int call, int[] a) {
            if (call == 16) {
                int was = tag;
                tag = Math.floorMod(a[0], 65536);
                return was;
            }
            if (call == 17) {
                return in(a[0], 0, 1) && in(a[1], 0, 1) ? doTick(a[0], a[1]) : OUTSIDE;
            }
            int[] all = {state, order, row[0] + 2 * row[1] + 4 * row[2], aside, tagRow};
            return in(a[0], 0, 4) ? all[a[0]] : OUTSIDE;
        }

        int askTests(int call, int[] a) {
            if (call == 19) {
                if (!in(a[0], 0, (1 << inputs.size()) - 1) || !in(a[1], 0, (1 << cells.size()) - 1)) {
                    return OUTSIDE;
                }
                if (tests.size() == 20) {
                    return FULL;
                }
                tests.add(a);
                return tests.size() - 1;
            }
            if (call == 21) {
                if (!in(a[0], 0, 1)) {
                    return OUTSIDE;
                }
                List<Integer> seen = a[0] == 0 ? seenOutputs : seenOuts;
                return in(a[1], 0, seen.size() - 1) ? seen.get(a[1]) : -1;
            }
            if (call == 24) {
                int n = 0;
                for (int l = 0; l < 2 * lines.size(); l++) {
                    n += firstToShow(l / 2, l % 2) >= 0 ? 1 : 0;
                }
                return n;
            }
            if (call == 20 || call == 22) {
                if (!in(a[0], 0, tests.size() - 1)) {
                    return UNKNOWN;
                }
                if (call == 20) {
                    return doDrive(a[0]);
                }
                return !isLine(a[1]) ? UNKNOWN : !in(a[2], 0, 1) ? OUTSIDE : doesShow(a[0], a[1], a[2]) ? 1 : 0;
            }
            if (call == 23) {
                return !isLine(a[0]) ? UNKNOWN : !in(a[1], 0, 1) ? OUTSIDE : firstToShow(a[0], a[1]);
            }
            if (!isLine(a[0]) || !isLine(a[1])) {
                return UNKNOWN;
            }
            return inputs.size() + cells.size() > 10 ? NOT : alike(a[0], a[1]);
        }
    }
}
