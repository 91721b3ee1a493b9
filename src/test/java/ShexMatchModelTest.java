import java.util.ArrayList;
import java.util.HashMap;
import java.util.List;
import java.util.Map;
import java.util.Random;

/**
 * Long runs of calls against a model that follows the document's words as directly as it can:
 * all ways to give arcs are tried one by one, and bags are split in all ways.
 */
public final class ShexMatchModelTest {
    private static final int THROWS = Integer.MIN_VALUE;
    private static int passed = 0;
    private static int failed = 0;

    public static void main(String[] args) {
        int runs = args.length > 0 ? Integer.parseInt(args[0]) : 300;
        for (int run = 0; run < runs; run++) {
            new Run(run).go();
        }
        System.out.println(passed + " passed, " + failed + " failed");
        if (failed != 0) {
            System.exit(1);
        }
    }

    /** One run; its seed sets how many nodes, labels and shapes it uses, so that some are dense. */
    private static final class Run {
        private final int seed;
        private final Random random;
        private final ShexMatch program = new ShexMatch();
        private final Model model = new Model();
        private final int nodes;
        private final int labels;
        private final int shapes;
        private final List<String> log = new ArrayList<>();

        Run(int seed) {
            this.seed = seed;
            random = new Random(seed);
            nodes = 1 + random.nextInt(seed % 4 == 0 ? 16 : 5);
            labels = 1 + random.nextInt(seed % 5 == 0 ? 8 : 2);
            shapes = 1 + random.nextInt(16);
        }

        void go() {
            for (int call = 0; call < 512 && failed == 0; call++) {
                step();
            }
        }

        private int pick(int count) {
            int dice = random.nextInt(60);
            return dice == 0 ? -1 : dice == 1 ? 16 : random.nextInt(Math.max(1, count));
        }

        private int pickShape() {
            return random.nextInt(3) == 0 ? -1 : pick(shapes);
        }

        private void check(String call, int got, int want) {
            log.add(call + " -> " + want);
            if (got == want) {
                passed++;
                return;
            }
            failed++;
            for (String line : log) {
                System.out.println(line);
            }
            System.out.println("run " + seed + ": " + call + " answered " + got + ", due is " + want);
        }

        private void step() {
            int dice = random.nextInt(100);
            if (dice < 22) {
                stepArc();
            } else if (dice < 37) {
                stepExpression();
            } else if (dice < 52) {
                stepShape();
            } else if (dice < 90) {
                stepQuestion();
            } else {
                stepOther();
            }
        }

        private void stepArc() {
            int from = pick(nodes);
            int label = pick(labels);
            int to = pick(nodes);
            boolean there = random.nextInt(5) != 0;
            check("arc " + from + " " + label + " " + to + " " + there,
                program.arc(from, label, to, there), model.arc(from, label, to, there));
        }

        private void stepExpression() {
            int kind = model.expressions.size() < 4 ? random.nextInt(2) : random.nextInt(6);
            kind = random.nextInt(60) == 0 ? 6 : kind;
            int count = model.expressions.size();
            int a = kind < 2 ? pick(labels) : pick(count);
            int b = kind < 2 ? pickShape() : kind == 4 ? random.nextInt(4) : pick(count);
            int c = random.nextInt(5) - 1;
            if (random.nextInt(40) == 0) {
                c = random.nextBoolean() ? -7 : 1000000000;
            }
            if (kind == 4 && random.nextInt(40) == 0) {
                b = random.nextBoolean() ? -1 : 1000000000;
            }
            check("expression " + kind + " " + a + " " + b + " " + c,
                program.expression(kind, a, b, c), model.expression(kind, a, b, c));
        }

        private void stepShape() {
            int kind = random.nextInt(3) > 0 ? 0 : random.nextInt(7) - 1;
            int s = pick(shapes);
            int a = kind == 0 ? pick(model.expressions.size()) : kind == 4 ? random.nextInt() : pick(shapes);
            int b = kind == 0 ? random.nextInt() & random.nextInt() : pick(shapes);
            int c = random.nextInt(3);
            check("shape " + s + " " + kind + " " + a + " " + b + " " + c,
                program.shape(s, kind, a, b, c), model.shape(s, kind, a, b, c));
            // A wrong ring answers WRONG to all that follows: most of them are taken back at once.
            if (model.wrong() >= 0 && random.nextInt(8) != 0) {
                check("wrong", program.wrong(), model.wrong());
                check("shape " + s + " -1", program.shape(s, -1, 0, 0, 0), model.shape(s, -1, 0, 0, 0));
            }
        }

        private void stepQuestion() {
            int node = pick(nodes);
            int s = pick(shapes);
            switch (random.nextInt(5)) {
                case 0:
                    check("has " + node + " " + s, program.has(node, s), model.has(node, s));
                    break;
                case 1:
                    check("nodes " + s, program.nodes(s), model.nodes(s));
                    break;
                case 2:
                    check("loose " + node + " " + s, program.loose(node, s), model.loose(node, s));
                    break;
                case 3:
                    check("ways " + node + " " + s, program.ways(node, s), model.ways(node, s));
                    break;
                default:
                    check("wrong", program.wrong(), model.wrong());
            }
        }

        private void stepOther() {
            int node = pick(nodes);
            boolean out = random.nextBoolean();
            int i = random.nextInt(6) - 1;
            int got;
            try {
                got = program.other(node, out, i);
            } catch (ArrayIndexOutOfBoundsException e) {
                got = THROWS;
            }
            check("other " + node + " " + out + " " + i, got, model.other(node, out, i));
            check("arcs", program.arcs(), model.arcs.size());
        }
    }

    private static final class Model {
        final List<int[]> arcs = new ArrayList<>();
        final List<int[]> expressions = new ArrayList<>();
        final int[][] shapes = new int[16][];
        private final Map<String, Boolean> known = new HashMap<>();
        private int[] sets;

        private static boolean in(int x, int end) {
            return 0 <= x && x < end;
        }

        int arc(int from, int label, int to, boolean there) {
            if (!in(from, 16) || !in(label, 8) || !in(to, 16)) {
                return -1;
            }
            int found = -1;
            int outs = 0;
            int ins = 0;
            for (int i = 0; i < arcs.size(); i++) {
                int[] a = arcs.get(i);
                outs += a[0] == from ? 1 : 0;
                ins += a[2] == to ? 1 : 0;
                found = a[0] == from && a[1] == label && a[2] == to ? i : found;
            }
            if (there && found >= 0 || !there && found < 0) {
                return 0;
            }
            sets = null;
            if (!there) {
                arcs.remove(found);
                return 1;
            }
            if (arcs.size() == 60 || outs == 4 || ins == 4) {
                return -2;
            }
            arcs.add(new int[] {from, label, to});
            return 1;
        }

        int expression(int kind, int a, int b, int c) {
            int n = expressions.size();
            boolean good = kind == 5
                || (kind == 0 || kind == 1) && in(a, 8) && b >= -1 && b < 16
                || (kind == 2 || kind == 3) && in(a, n) && in(b, n)
                || kind == 4 && in(a, n) && b >= 0;
            if (!good) {
                return -1;
            }
            if (n == 60) {
                return -2;
            }
            expressions.add(new int[] {kind, a, b, c});
            return n;
        }

        private void places(int e, List<Integer> found) {
            int[] x = expressions.get(e);
            if (x[0] < 2 && !found.contains(e)) {
                found.add(e);
            }
            if (x[0] >= 2 && x[0] <= 4) {
                places(x[1], found);
            }
            if (x[0] == 2 || x[0] == 3) {
                places(x[2], found);
            }
        }

        private List<Integer> places(int e) {
            List<Integer> found = new ArrayList<>();
            places(e, found);
            return found;
        }

        int shape(int s, int kind, int a, int b, int c) {
            boolean good = kind == -1 || kind == 4
                || kind == 0 && in(a, expressions.size()) && places(a).size() <= 5
                || (kind == 1 || kind == 2) && in(a, 16) && in(b, 16)
                || kind == 3 && in(a, 16);
            if (!in(s, 16) || !good) {
                return -1;
            }
            shapes[s] = kind == -1 ? null : new int[] {kind, a, b, c};
            sets = null;
            return 1;
        }

        private List<Integer> refersTo(int s) {
            List<Integer> found = new ArrayList<>();
            int[] x = shapes[s];
            if (x != null && x[0] == 0) {
                for (int p : places(x[1])) {
                    if (expressions.get(p)[2] >= 0) {
                        found.add(expressions.get(p)[2]);
                    }
                }
            }
            if (x != null && x[0] >= 1 && x[0] <= 3) {
                found.add(x[1]);
            }
            if (x != null && (x[0] == 1 || x[0] == 2)) {
                found.add(x[2]);
            }
            return found;
        }

        int wrong() {
            for (int s = 0; s < 16; s++) {
                if (comesBack(s)) {
                    return s;
                }
            }
            return -1;
        }

        /** Walks from s, remembering at each shape whether a NOT has been gone through. */
        private boolean comesBack(int s) {
            boolean[][] seen = new boolean[16][2];
            List<int[]> open = new ArrayList<>();
            open.add(new int[] {s, 0});
            for (int i = 0; i < open.size(); i++) {
                int at = open.get(i)[0];
                int not = shapes[at] != null && shapes[at][0] == 3 ? 1 : open.get(i)[1];
                for (int t : refersTo(at)) {
                    if (t == s && not == 1) {
                        return true;
                    }
                    if (!seen[t][not]) {
                        seen[t][not] = true;
                        open.add(new int[] {t, not});
                    }
                }
            }
            return false;
        }

        /** Layer by layer of NOTs; in each the sets shrink from all nodes until nothing changes. */
        private int[] sets() {
            if (sets != null) {
                return sets;
            }
            int[] level = new int[16];
            for (int round = 0; round < 40; round++) {
                for (int s = 0; s < 16; s++) {
                    for (int t : refersTo(s)) {
                        level[s] = Math.max(level[s], level[t] + (shapes[s][0] == 3 ? 1 : 0));
                    }
                }
            }
            int[] now = new int[16];
            for (int l = 0; l <= 16; l++) {
                for (int s = 0; s < 16; s++) {
                    now[s] = level[s] == l ? 0xFFFF : now[s];
                }
                boolean changed = true;
                while (changed) {
                    int[] next = now.clone();
                    changed = false;
                    for (int s = 0; s < 16; s++) {
                        next[s] = level[s] == l ? all(s, now) : now[s];
                        changed |= next[s] != now[s];
                    }
                    now = next;
                }
            }
            sets = now;
            return sets;
        }

        private int all(int s, int[] now) {
            int[] x = shapes[s];
            if (x == null) {
                return 0;
            }
            switch (x[0]) {
                case 1:
                    return now[x[1]] & now[x[2]];
                case 2:
                    return now[x[1]] | now[x[2]];
                case 3:
                    return 0xFFFF & ~now[x[1]];
                case 4:
                    return 0xFFFF & x[1];
                default:
                    int result = 0;
                    for (int n = 0; n < 16; n++) {
                        result |= waysOf(n, s, now) > 0 ? 1 << n : 0;
                    }
                    return result;
            }
        }

        /** For each arc of concern what can be done with it: places by their number, -1 to leave it. */
        private List<List<Integer>> choices(int n, int s, int[] now) {
            int[] x = shapes[s];
            List<Integer> places = places(x[1]);
            List<List<Integer>> result = new ArrayList<>();
            for (int side = 0; side < 2; side++) {
                for (int[] a : arcs) {
                    if (a[side == 0 ? 0 : 2] != n) {
                        continue;
                    }
                    int far = a[side == 0 ? 2 : 0];
                    boolean concern = side == 0 && x[3] == 1;
                    List<Integer> can = new ArrayList<>();
                    for (int p : places) {
                        int[] place = expressions.get(p);
                        if (place[0] == side && place[1] == a[1]) {
                            concern = true;
                            if (place[2] == -1 || (now[place[2]] >> far & 1) == 1) {
                                can.add(p);
                            }
                        }
                    }
                    if (side == 0 && (x[2] >> a[1] & 1) == 1) {
                        can.add(-1);
                    }
                    if (concern) {
                        result.add(can);
                    }
                }
            }
            return result;
        }

        private int waysOf(int n, int s, int[] now) {
            return tryAll(choices(n, s, now), 0, 0L, shapes[s][1], places(shapes[s][1]));
        }

        /** A bag has four bits for each place, in the order of the shape's places. */
        private int tryAll(List<List<Integer>> choices, int i, long bag, int e, List<Integer> places) {
            if (i == choices.size()) {
                return allows(e, bag, places) ? 1 : 0;
            }
            int sum = 0;
            for (int p : choices.get(i)) {
                long more = p < 0 ? 0 : 1L << 4 * places.indexOf(p);
                sum += tryAll(choices, i + 1, bag + more, e, places);
            }
            return sum;
        }

        private boolean allows(int e, long bag, List<Integer> places) {
            String key = e + " " + bag + " " + places;
            Boolean old = known.get(key);
            if (old == null) {
                old = split(e, bag, places);
                known.put(key, old);
            }
            return old;
        }

        private boolean split(int e, long bag, List<Integer> places) {
            int[] x = expressions.get(e);
            switch (x[0]) {
                case 0:
                case 1:
                    return bag == 1L << 4 * places.indexOf(e);
                case 2:
                    for (long part : parts(bag)) {
                        if (allows(x[1], part, places) && allows(x[2], bag - part, places)) {
                            return true;
                        }
                    }
                    return false;
                case 3:
                    return allows(x[1], bag, places) || allows(x[2], bag, places);
                case 4:
                    // A bag has at most 8, so that from 9 on more repeats add nothing but empty bags.
                    int low = Math.min(x[2], 9);
                    int high = x[3] == -1 ? 9 : Math.min(x[3], 9);
                    boolean can = x[3] == -1 || x[3] >= x[2];
                    for (int k = low; can && k <= high; k++) {
                        if (repeats(x[1], bag, k, places)) {
                            return true;
                        }
                    }
                    return false;
                default:
                    return bag == 0;
            }
        }

        private boolean repeats(int e, long bag, int k, List<Integer> places) {
            if (k == 0) {
                return bag == 0;
            }
            String key = "r" + e + " " + bag + " " + k + " " + places;
            Boolean old = known.get(key);
            if (old != null) {
                return old;
            }
            boolean can = false;
            for (long part : parts(bag)) {
                can = can || allows(e, part, places) && repeats(e, bag - part, k - 1, places);
            }
            known.put(key, can);
            return can;
        }

        private static List<Long> parts(long bag) {
            List<Long> result = new ArrayList<>();
            result.add(0L);
            for (int slot = 0; slot < 5; slot++) {
                int most = (int) (bag >> 4 * slot & 15);
                int before = result.size();
                for (int i = 0; i < before; i++) {
                    for (int k = 1; k <= most; k++) {
                        result.add(result.get(i) + ((long) k << 4 * slot));
                    }
                }
            }
            return result;
        }

        private boolean bare(int s) {
            return in(s, 16) && shapes[s] != null && shapes[s][0] == 0;
        }

        int has(int n, int s) {
            return !in(n, 16) || !in(s, 16) ? -1 : wrong() >= 0 ? -3 : sets()[s] >> n & 1;
        }

        int nodes(int s) {
            return !in(s, 16) ? -1 : wrong() >= 0 ? -3 : sets()[s];
        }

        int loose(int n, int s) {
            if (!in(n, 16) || !bare(s)) {
                return -1;
            }
            if (wrong() >= 0) {
                return -3;
            }
            int count = 0;
            for (List<Integer> can : choices(n, s, sets())) {
                count += can.isEmpty() ? 1 : 0;
            }
            return count;
        }

        int ways(int n, int s) {
            return !in(n, 16) || !bare(s) ? -1 : wrong() >= 0 ? -3 : waysOf(n, s, sets());
        }

        int other(int n, boolean out, int i) {
            List<Integer> keys = new ArrayList<>();
            for (int[] a : arcs) {
                if (a[out ? 0 : 2] == n) {
                    keys.add(a[1] * 100 + a[out ? 2 : 0]);
                }
            }
            keys.sort(null);
            return in(i, keys.size()) ? keys.get(i) % 100 : THROWS;
        }
    }
}
