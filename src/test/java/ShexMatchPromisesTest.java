import java.lang.reflect.Constructor;
import java.lang.reflect.Field;
import java.lang.reflect.Member;
import java.lang.reflect.Method;
import java.lang.reflect.Modifier;
import java.util.Arrays;
import java.util.TreeSet;

/** Each promise of the document: ordinary inputs, the edges it names, and wrong inputs. */
public final class ShexMatchPromisesTest {
    private static final int OUT = 0;
    private static final int IN = 1;
    private static final int BOTH = 2;
    private static final int EITHER = 3;
    private static final int REPEATED = 4;
    private static final int NOTHING = 5;
    private static final int NONE = -1;
    private static final int BARE = 0;
    private static final int AND = 1;
    private static final int OR = 2;
    private static final int NOT = 3;
    private static final int AMONG = 4;
    private static final int ANY = -1;
    private static final int BAD = -1;
    private static final int FULL = -2;
    private static final int WRONG = -3;
    private static final int THROWS = Integer.MIN_VALUE;
    private static final int ALL = 0xFFFF;
    private static final int[] EDGES = {-1, Integer.MIN_VALUE, Integer.MAX_VALUE};

    private static int passed = 0;
    private static int failed = 0;

    private static void due(String what, int got, int want) {
        if (got == want) {
            passed++;
        } else {
            failed++;
            System.out.println(what + ": answered " + got + ", due is " + want);
        }
    }

    public static void main(String[] args) {
        face();
        newObject();
        arcsComeAndGo();
        arcsAreLimited();
        expressionsAreNumbered();
        expressionsAreLimited();
        shapesAreChecked();
        shapesCountPlacesOnce();
        combinedShapes();
        placesTakeArcs();
        expressionsAllowBags();
        repeatsAllowBags();
        samePlaceTwice();
        extraAndClosed();
        selfArcs();
        ringsAreGreatest();
        wrongRings();
        looseArcs();
        waysAreCounted();
        othersAreSorted();
        System.out.println(passed + " passed, " + failed + " failed");
        if (failed != 0) {
            System.exit(1);
        }
    }

    private static int other(ShexMatch x, int node, boolean out, int i) {
        try {
            return x.other(node, out, i);
        } catch (ArrayIndexOutOfBoundsException e) {
            return THROWS;
        }
    }

    /** An object with arcs from 0 to 1 .. count, all of label 0. */
    private static ShexMatch star(int count) {
        ShexMatch x = new ShexMatch();
        for (int to = 1; to <= count; to++) {
            due("star arc " + to, x.arc(0, 0, to, true), 1);
        }
        return x;
    }

    private static void face() {
        TreeSet<String> seen = new TreeSet<>();
        for (Method m : ShexMatch.class.getDeclaredMethods()) {
            addVisible(seen, m);
        }
        for (Field f : ShexMatch.class.getDeclaredFields()) {
            addVisible(seen, f);
        }
        for (Constructor<?> c : ShexMatch.class.getDeclaredConstructors()) {
            addVisible(seen, c);
        }
        TreeSet<String> want = new TreeSet<>(Arrays.asList("BAD", "FULL", "WRONG", "ShexMatch", "arc",
            "expression", "shape", "has", "nodes", "wrong", "loose", "ways", "arcs", "other"));
        due("the face " + seen, seen.equals(want) ? 1 : 0, 1);
        due("public and final", ShexMatch.class.getModifiers() & (Modifier.PUBLIC | Modifier.FINAL),
            Modifier.PUBLIC | Modifier.FINAL);
        due("BAD", ShexMatch.BAD, BAD);
        due("FULL", ShexMatch.FULL, FULL);
        due("WRONG", ShexMatch.WRONG, WRONG);
    }

    private static void addVisible(TreeSet<String> seen, Member member) {
        if (!Modifier.isPrivate(member.getModifiers()) && !member.isSynthetic()) {
            seen.add(member.getName());
        }
    }

    private static void newObject() {
        ShexMatch x = new ShexMatch();
        due("new arcs", x.arcs(), 0);
        due("new wrong", x.wrong(), -1);
        for (int s = 0; s < 16; s++) {
            due("new nodes", x.nodes(s), 0);
            due("new has", x.has(15, s), 0);
            due("new loose", x.loose(0, s), BAD);
            due("new ways", x.ways(0, s), BAD);
            due("new out", other(x, s, true, 0), THROWS);
            due("new in", other(x, s, false, 0), THROWS);
        }
        due("no expression yet", x.expression(REPEATED, 0, 0, 1), BAD);
        due("no expression for a shape", x.shape(0, BARE, 0, 0, 0), BAD);
        due("first expression", x.expression(NOTHING, 7, 7, 7), 0);
    }

    private static void arcsComeAndGo() {
        ShexMatch x = new ShexMatch();
        due("goes before it came", x.arc(15, 7, 15, false), 0);
        due("comes", x.arc(15, 7, 15, true), 1);
        due("comes twice", x.arc(15, 7, 15, true), 0);
        due("other label", x.arc(15, 6, 15, true), 1);
        due("other way round", x.arc(0, 1, 2, true), 1);
        due("is another arc", x.arc(2, 1, 0, false), 0);
        due("arcs", x.arcs(), 3);
        due("goes", x.arc(15, 7, 15, false), 1);
        due("goes twice", x.arc(15, 7, 15, false), 0);
        due("arcs after", x.arcs(), 2);
        for (int bad : new int[] {-1, 16, Integer.MIN_VALUE, Integer.MAX_VALUE}) {
            due("bad from", x.arc(bad, 0, 0, true), BAD);
            due("bad to", x.arc(0, 0, bad, true), BAD);
            due("bad from goes", x.arc(bad, 0, 0, false), BAD);
            due("bad to goes", x.arc(0, 0, bad, false), BAD);
        }
        for (int bad : new int[] {-1, 8, Integer.MIN_VALUE, Integer.MAX_VALUE}) {
            due("bad label", x.arc(0, bad, 0, true), BAD);
            due("bad label goes", x.arc(0, bad, 0, false), BAD);
        }
        due("arcs after bad", x.arcs(), 2);
    }

    private static void arcsAreLimited() {
        ShexMatch x = star(4);
        due("fifth out", x.arc(0, 0, 5, true), FULL);
        due("out that is there", x.arc(0, 0, 4, true), 0);
        due("bad before full", x.arc(0, 8, 5, true), BAD);
        due("room again", x.arc(0, 0, 4, false), 1);
        due("out again", x.arc(0, 0, 5, true), 1);
        x = new ShexMatch();
        for (int from = 1; from <= 4; from++) {
            due("in " + from, x.arc(from, 3, 0, true), 1);
        }
        due("fifth in", x.arc(5, 3, 0, true), FULL);
        due("in that is there", x.arc(1, 3, 0, true), 0);
        due("a self arc needs room on both sides", x.arc(0, 3, 0, true), FULL);
        x = new ShexMatch();
        for (int i = 0; i < 60; i++) {
            due("arc " + i, x.arc(i / 4, i % 4, i / 4, true), 1);
        }
        due("sixty-first", x.arc(15, 0, 15, true), FULL);
        due("sixty arcs", x.arcs(), 60);
        due("there at sixty", x.arc(0, 0, 0, true), 0);
        due("one goes", x.arc(0, 0, 0, false), 1);
        due("one comes", x.arc(15, 0, 15, true), 1);
    }

    private static void expressionsAreNumbered() {
        ShexMatch x = new ShexMatch();
        due("out", x.expression(OUT, 7, 15, 99), 0);
        due("in", x.expression(IN, 0, ANY, -99), 1);
        due("both", x.expression(BOTH, 0, 0, 99), 2);
        due("either", x.expression(EITHER, 1, 2, 99), 3);
        due("repeated", x.expression(REPEATED, 3, 0, -1), 4);
        due("nothing", x.expression(NOTHING, -5, -5, -5), 5);
        due("high below low", x.expression(REPEATED, 0, 3, 2), 6);
        due("high below -1", x.expression(REPEATED, 0, 0, Integer.MIN_VALUE), 7);
        due("much", x.expression(REPEATED, 0, Integer.MAX_VALUE, Integer.MAX_VALUE), 8);
        for (int kind : new int[] {-1, 6, Integer.MIN_VALUE, Integer.MAX_VALUE}) {
            due("bad kind", x.expression(kind, 0, 0, 0), BAD);
        }
        for (int kind = OUT; kind <= IN; kind++) {
            for (int bad : new int[] {-1, 8, Integer.MIN_VALUE, Integer.MAX_VALUE}) {
                due("bad label", x.expression(kind, bad, 0, 0), BAD);
            }
            for (int bad : new int[] {-2, 16, Integer.MIN_VALUE, Integer.MAX_VALUE}) {
                due("bad shape", x.expression(kind, 0, bad, 0), BAD);
            }
        }
        for (int bad : new int[] {-1, 9, Integer.MIN_VALUE, Integer.MAX_VALUE}) {
            due("bad a", x.expression(BOTH, bad, 0, 0), BAD);
            due("bad b", x.expression(BOTH, 0, bad, 0), BAD);
            due("bad a", x.expression(EITHER, bad, 0, 0), BAD);
            due("bad b", x.expression(EITHER, 0, bad, 0), BAD);
            due("bad part", x.expression(REPEATED, bad, 0, 1), BAD);
        }
        due("bad low", x.expression(REPEATED, 0, -1, 1), BAD);
        due("bad low", x.expression(REPEATED, 0, Integer.MIN_VALUE, -1), BAD);
        due("the next number", x.expression(NOTHING, 0, 0, 0), 9);
    }

    private static void expressionsAreLimited() {
        ShexMatch x = new ShexMatch();
        for (int i = 0; i < 60; i++) {
            due("expression " + i, x.expression(i == 0 ? OUT : BOTH, 0, 0, 0), i);
        }
        for (int kind = OUT; kind <= NOTHING; kind++) {
            due("full for kind " + kind, x.expression(kind, 0, 0, 0), FULL);
        }
        due("bad before full", x.expression(6, 0, 0, 0), BAD);
        due("bad label before full", x.expression(OUT, 8, 0, 0), BAD);
        due("bad part before full", x.expression(BOTH, 0, 60, 0), BAD);
        due("the last one is good", x.shape(0, BARE, 59, 0, 0), 1);
        due("there is no more", x.shape(0, BARE, 60, 0, 0), BAD);
    }

    private static void shapesAreChecked() {
        ShexMatch x = new ShexMatch();
        x.expression(NOTHING, 0, 0, 0);
        for (int bad : new int[] {-1, 16, Integer.MIN_VALUE, Integer.MAX_VALUE}) {
            due("bad shape", x.shape(bad, AMONG, 1, 0, 0), BAD);
            due("bad shape to none", x.shape(bad, NONE, 0, 0, 0), BAD);
            due("bad and a", x.shape(0, AND, bad, 0, 0), BAD);
            due("bad and b", x.shape(0, AND, 0, bad, 0), BAD);
            due("bad or a", x.shape(0, OR, bad, 0, 0), BAD);
            due("bad or b", x.shape(0, OR, 0, bad, 0), BAD);
            due("bad not", x.shape(0, NOT, bad, 0, 0), BAD);
            due("has bad node", x.has(bad, 0), BAD);
            due("has bad shape", x.has(0, bad), BAD);
            due("nodes bad shape", x.nodes(bad), BAD);
        }
        for (int bad : new int[] {-2, 5, Integer.MIN_VALUE, Integer.MAX_VALUE}) {
            due("bad kind", x.shape(0, bad, 0, 0, 0), BAD);
        }
        for (int bad : new int[] {-1, 1, Integer.MIN_VALUE, Integer.MAX_VALUE}) {
            due("bad expression", x.shape(0, BARE, bad, 0, 0), BAD);
        }
        due("among", x.shape(3, AMONG, 0x12345, 99, 99), 1);
        due("lowest 16 bits", x.nodes(3), 0x2345);
        due("all bits", x.shape(3, AMONG, -1, 0, 0), 1);
        due("all nodes", x.nodes(3), ALL);
        due("a bad call", x.shape(3, NOT, 16, 0, 0), BAD);
        due("changes nothing", x.nodes(3), ALL);
        due("none", x.shape(3, NONE, 99, 99, 99), 1);
        due("nodes of none", x.nodes(3), 0);
    }

    private static void shapesCountPlacesOnce() {
        ShexMatch x = new ShexMatch();
        for (int i = 0; i < 6; i++) {
            x.expression(i % 2 == 0 ? OUT : IN, i, ANY, 0);
        }
        int sum = 0;
        for (int i = 1; i < 5; i++) {
            sum = x.expression(BOTH, sum, i, 0);
        }
        due("five places", x.shape(0, BARE, sum, 0, 0), 1);
        int again = x.expression(BOTH, sum, sum, 0);
        due("five places, each twice", x.shape(0, BARE, again, 0, 0), 1);
        int six = x.expression(EITHER, again, 5, 0);
        due("six places", x.shape(1, BARE, six, 0, 0), BAD);
        due("nothing became of it", x.loose(0, 1), BAD);
        int none = x.expression(REPEATED, six, 0, 0);
        due("six places repeated never", x.shape(1, BARE, none, 0, 0), BAD);
        int more = x.expression(BOTH, 0, none, 0);
        due("six places in a part", x.shape(1, BARE, more, 0, 0), BAD);
        due("still the old shape", x.loose(0, 0), 0);
    }

    private static void combinedShapes() {
        ShexMatch x = new ShexMatch();
        x.shape(0, AMONG, 0b0011, 0, 0);
        x.shape(1, AMONG, 0b0101, 0, 0);
        x.shape(2, AND, 0, 1, 0);
        x.shape(3, OR, 0, 1, 0);
        x.shape(4, NOT, 3, 0, 0);
        x.shape(5, AND, 4, 15, 0);
        x.shape(6, OR, 4, 15, 0);
        x.shape(7, NOT, 15, 0, 0);
        x.shape(8, NOT, 4, 0, 0);
        due("and", x.nodes(2), 0b0001);
        due("or", x.nodes(3), 0b0111);
        due("not", x.nodes(4), ALL & ~0b0111);
        due("and none", x.nodes(5), 0);
        due("or none", x.nodes(6), ALL & ~0b0111);
        due("not none", x.nodes(7), ALL);
        due("not not", x.nodes(8), 0b0111);
        due("has", x.has(2, 3), 1);
        due("has not", x.has(3, 3), 0);
        x.shape(1, AMONG, 0b1000, 0, 0);
        due("after a change", x.nodes(3), 0b1011);
        due("not after a change", x.nodes(4), ALL & ~0b1011);
    }

    private static void placesTakeArcs() {
        ShexMatch x = new ShexMatch();
        x.arc(0, 1, 2, true);
        x.expression(OUT, 1, ANY, 0);
        x.expression(IN, 1, ANY, 0);
        x.expression(OUT, 2, ANY, 0);
        x.expression(OUT, 1, 10, 0);
        x.expression(IN, 1, 10, 0);
        for (int s = 0; s < 5; s++) {
            x.shape(s, BARE, s, 0, 0);
        }
        due("out", x.nodes(0), 1 << 0);
        due("in", x.nodes(1), 1 << 2);
        due("other label", x.nodes(2), 0);
        due("out to none", x.nodes(3), 0);
        x.shape(10, AMONG, 1 << 2, 0, 0);
        due("out to a node that has it", x.nodes(3), 1 << 0);
        due("in from a node that has it not", x.nodes(4), 0);
        x.shape(10, AMONG, 1 << 0, 0, 0);
        due("out to a node that has it not", x.nodes(3), 0);
        due("in from a node that has it", x.nodes(4), 1 << 2);
    }

    /** With so many arcs of label 0 and 1 out of node 0, whether it has the shape of an expression. */
    private static int allowed(int[] parts, int zeros, int ones) {
        ShexMatch x = new ShexMatch();
        for (int i = 0; i < zeros; i++) {
            x.arc(0, 0, 1 + i, true);
        }
        for (int i = 0; i < ones; i++) {
            x.arc(0, 1, 1 + i, true);
        }
        int last = -1;
        for (int i = 0; i + 3 < parts.length; i += 4) {
            last = x.expression(parts[i], parts[i + 1], parts[i + 2], parts[i + 3]);
        }
        due("shape of what was built", x.shape(0, BARE, last, 0, 0), 1);
        due("has and ways agree", x.ways(0, 0) > 0 ? 1 : 0, x.has(0, 0));
        return x.has(0, 0);
    }

    private static void expressionsAllowBags() {
        int[] places = {OUT, 0, ANY, 0, OUT, 1, ANY, 0};
        for (int zeros = 0; zeros <= 2; zeros++) {
            for (int ones = 0; ones <= 2; ones++) {
                String at = " of " + zeros + ", " + ones;
                due("both" + at, allowed(with(places, BOTH, 0, 1, 0), zeros, ones), zeros == 1 && ones == 1 ? 1 : 0);
                due("either" + at, allowed(with(places, EITHER, 0, 1, 0), zeros, ones), zeros + ones == 1 ? 1 : 0);
            }
        }
        due("nothing to an open shape", allowed(new int[] {NOTHING, 0, 0, 0}, 2, 2), 1);
        due("part that allows none in both", allowed(with(with(places, REPEATED, 0, 1, 0), BOTH, 1, 2, 0), 0, 1), 0);
        due("part that allows none in either", allowed(with(with(places, REPEATED, 0, 1, 0), EITHER, 1, 2, 0), 0, 1), 1);
    }

    private static int[] with(int[] parts, int kind, int a, int b, int c) {
        int[] result = Arrays.copyOf(parts, parts.length + 4);
        int[] more = {kind, a, b, c};
        System.arraycopy(more, 0, result, parts.length, 4);
        return result;
    }

    private static void repeatsAllowBags() {
        int most = Integer.MAX_VALUE;
        int[][] ranges = {{0, -1}, {1, -1}, {0, 0}, {2, 3}, {3, 2}, {0, -2}, {4, 4}, {4, most}, {5, most}, {most, -1}, {0, 9}};
        int[] place = {OUT, 0, ANY, 0};
        int[] maybe = {OUT, 0, ANY, 0, REPEATED, 0, 0, 1};
        int[] pair = {OUT, 0, ANY, 0, BOTH, 0, 0, 0};
        for (int[] r : ranges) {
            boolean any = r[1] == -1;
            for (int n = 0; n <= 4; n++) {
                String at = " from " + r[0] + " to " + r[1] + " of " + n;
                boolean in = n >= r[0] && (any || n <= r[1]);
                due("repeated" + at, allowed(with(place, REPEATED, 0, r[0], r[1]), n, 0), in ? 1 : 0);
                boolean can = (any || r[0] <= r[1]) && (any || n <= r[1]);
                due("empty ones fill up" + at, allowed(with(maybe, REPEATED, 1, r[0], r[1]), n, 0), can ? 1 : 0);
                boolean even = n % 2 == 0 && n / 2 >= r[0] && (any || n / 2 <= r[1]);
                due("pairs" + at, allowed(with(pair, REPEATED, 1, r[0], r[1]), n, 0), even ? 1 : 0);
            }
        }
        int[] oneOrThree = {OUT, 0, ANY, 0, REPEATED, 0, 3, 3, EITHER, 0, 1, 0, REPEATED, 2, 2, 2};
        for (int n = 0; n <= 4; n++) {
            due("two of one or three, of " + n, allowed(oneOrThree, n, 0), n == 2 || n == 4 ? 1 : 0);
        }
        due("none, repeated never", allowed(new int[] {OUT, 0, ANY, 0, REPEATED, 0, 1, 0, REPEATED, 1, 0, 5}, 0, 0), 1);
        due("none, repeated once", allowed(new int[] {OUT, 0, ANY, 0, REPEATED, 0, 1, 0, REPEATED, 1, 1, 5}, 0, 0), 0);
    }

    private static void samePlaceTwice() {
        ShexMatch x = star(2);
        x.expression(OUT, 0, ANY, 0);
        x.expression(BOTH, 0, 0, 0);
        x.expression(OUT, 0, ANY, 0);
        x.expression(BOTH, 0, 2, 0);
        x.shape(0, BARE, 1, 0, 0);
        x.shape(1, BARE, 3, 0, 0);
        due("one place has both arcs", x.ways(0, 0), 1);
        due("two like places are two", x.ways(0, 1), 2);
        x.expression(EITHER, 1, 1, 0);
        x.shape(0, BARE, 4, 0, 0);
        due("the same bag by two ways is one", x.ways(0, 0), 1);
    }

    private static void extraAndClosed() {
        ShexMatch x = star(2);
        x.arc(0, 1, 1, true);
        x.arc(2, 0, 0, true);
        x.arc(3, 5, 0, true);
        x.expression(OUT, 0, ANY, 0);
        x.expression(IN, 0, ANY, 0);
        x.shape(0, BARE, 0, 0, 0);
        due("one too many", x.has(0, 0), 0);
        x.shape(0, BARE, 0, 0b01, 0);
        due("one is left", x.has(0, 0), 1);
        due("either is left", x.ways(0, 0), 2);
        x.shape(0, BARE, 0, 0b01, 1);
        due("another label in the way", x.has(0, 0), 0);
        due("how many", x.loose(0, 0), 1);
        x.shape(0, BARE, 0, 0b01, 2);
        due("2 is open", x.has(0, 0), 1);
        x.shape(0, BARE, 0, 0b11, 1);
        due("another label in extra", x.has(0, 0), 1);
        x.shape(0, BARE, 0, 0x100 | 0b01, 0);
        due("only the lowest 8 bits", x.ways(0, 0), 2);
        x.shape(0, BARE, 0, -1, 1);
        due("all labels in extra", x.ways(0, 0), 2);
        x.shape(0, BARE, 1, 0, 1);
        due("closed counts all that go out", x.loose(0, 0), 3);
        x.shape(0, BARE, 1, 0, 0);
        due("open counts none of them", x.ways(0, 0), 1);
        x.arc(4, 0, 0, true);
        due("two come in", x.has(0, 0), 0);
        x.shape(0, BARE, 1, 0xFF, 0);
        due("what comes in can't be left", x.has(0, 0), 0);
    }

    private static void selfArcs() {
        ShexMatch x = new ShexMatch();
        x.arc(6, 2, 6, true);
        x.expression(OUT, 2, 0, 0);
        x.expression(IN, 2, 0, 0);
        x.expression(BOTH, 0, 1, 0);
        x.shape(0, BARE, 2, 0, 1);
        due("an arc to itself is two", x.nodes(0), 1 << 6);
        x.shape(0, BARE, 0, 0, 1);
        due("out alone", x.nodes(0), 1 << 6);
        due("its other end, out", other(x, 6, true, 0), 6);
        due("its other end, in", other(x, 6, false, 0), 6);
    }

    private static void ringsAreGreatest() {
        ShexMatch x = new ShexMatch();
        x.shape(0, AND, 0, 0, 0);
        x.shape(1, OR, 1, 15, 0);
        x.shape(2, AND, 2, 15, 0);
        x.shape(3, AND, 4, 4, 0);
        x.shape(4, OR, 3, 3, 0);
        x.shape(5, NOT, 4, 0, 0);
        due("and of itself", x.nodes(0), ALL);
        due("or of itself", x.nodes(1), ALL);
        due("and of itself and none", x.nodes(2), 0);
        due("ring of two", x.nodes(3), ALL);
        due("not of a ring", x.nodes(5), 0);
        due("no wrong ring", x.wrong(), -1);
        for (int n = 0; n < 15; n++) {
            x.arc(n, 0, n + 1, true);
        }
        x.expression(OUT, 0, 6, 0);
        x.expression(REPEATED, 0, 0, -1);
        x.shape(6, BARE, 0, 0, 0);
        due("a chain that ends", x.nodes(6), 0);
        due("no way in it", x.ways(0, 6), 0);
        due("its first arc", x.loose(0, 6), 1);
        x.arc(15, 0, 3, true);
        due("a chain into a ring", x.nodes(6), ALL);
        x.arc(15, 0, 3, false);
        x.shape(6, BARE, 1, 0, 0);
        due("a chain that may end", x.nodes(6), ALL);
        x.shape(7, AMONG, 0b10111111, 0, 0);
        x.shape(8, BARE, 1, 0, 0);
        x.shape(6, AND, 8, 7, 0);
        due("two shapes in a ring", x.nodes(6), 0);
        x.shape(7, AMONG, ~0b01000000, 0, 0);
        due("broken in the middle", x.nodes(6), ALL & ~0b01111111);
        due("the other of the ring", x.nodes(8), ALL & ~0b00111111);
    }

    private static void wrongRings() {
        ShexMatch x = new ShexMatch();
        x.expression(OUT, 0, 3, 0);
        x.expression(REPEATED, 0, 0, 0);
        x.expression(OUT, 0, ANY, 0);
        x.shape(9, BARE, 2, 0, 0);
        x.shape(4, BARE, 1, 0, 0);
        x.shape(3, NOT, 4, 0, 0);
        due("through a place that never is", x.wrong(), 3);
        due("has", x.has(0, 9), WRONG);
        due("nodes of none", x.nodes(0), WRONG);
        due("loose", x.loose(0, 9), WRONG);
        due("ways", x.ways(0, 9), WRONG);
        due("bad node before wrong", x.has(16, 9), BAD);
        due("bad shape before wrong", x.nodes(16), BAD);
        due("not bare before wrong", x.loose(0, 3), BAD);
        due("none before wrong", x.ways(0, 0), BAD);
        x.shape(1, OR, 3, 3, 0);
        due("what leads to a ring is not in it", x.wrong(), 3);
        x.shape(9, BARE, 2, 0, 0);
        x.shape(4, AND, 9, 9, 0);
        due("no ring", x.wrong(), -1);
        due("no ring, has", x.has(0, 9), 0);
        x.shape(5, NOT, 5, 0, 0);
        due("not of itself", x.wrong(), 5);
        x.shape(5, NOT, 6, 0, 0);
        x.shape(6, NOT, 5, 0, 0);
        due("two nots are wrong too", x.wrong(), 5);
        x.shape(6, AND, 2, 5, 0);
        x.shape(2, OR, 6, 6, 0);
        due("the least in a ring by another ring", x.wrong(), 2);
        x.shape(5, NONE, 0, 0, 0);
        due("mended", x.wrong(), -1);
        due("mended sets", x.nodes(3), ALL);
    }

    private static void looseArcs() {
        ShexMatch x = star(3);
        x.arc(5, 1, 0, true);
        x.arc(6, 1, 0, true);
        x.expression(OUT, 0, 1, 0);
        x.expression(IN, 1, 1, 0);
        x.expression(BOTH, 0, 1, 0);
        x.shape(0, BARE, 2, 0, 0);
        x.shape(1, AMONG, 1 << 2 | 1 << 5, 0, 0);
        due("out and in", x.loose(0, 0), 3);
        x.shape(0, BARE, 2, 0xFF, 0);
        due("extra is for what goes out", x.loose(0, 0), 1);
        due("of a node without arcs", x.loose(9, 0), 0);
        x.shape(1, AMONG, ALL, 0, 0);
        due("all taken", x.loose(0, 0), 0);
        due("and still not had", x.has(0, 0), 0);
        for (int bad : EDGES) {
            due("bad node", x.loose(bad, 0), BAD);
            due("bad shape", x.loose(0, bad), BAD);
        }
        due("node 16", x.loose(16, 0), BAD);
        due("shape 16", x.loose(0, 16), BAD);
        for (int kind = AND; kind <= AMONG; kind++) {
            x.shape(2, kind, 1, 1, 1);
            due("not bare " + kind, x.loose(0, 2), BAD);
            due("no ways " + kind, x.ways(0, 2), BAD);
        }
    }

    private static void waysAreCounted() {
        ShexMatch x = star(4);
        for (int from = 1; from <= 4; from++) {
            x.arc(from, 0, 0, true);
        }
        for (int i = 0; i < 5; i++) {
            x.expression(i < 2 ? OUT : IN, 0, ANY, 0);
        }
        int any = 0;
        for (int i = 1; i < 5; i++) {
            any = x.expression(EITHER, any, i, 0);
        }
        int all = x.expression(REPEATED, any, 0, -1);
        x.shape(0, BARE, all, 0, 1);
        due("2^4 * 3^4", x.ways(0, 0), 1296);
        x.shape(0, BARE, all, 1, 1);
        due("3^4 * 3^4", x.ways(0, 0), 6561);
        int eight = x.expression(REPEATED, any, 8, 8);
        x.shape(0, BARE, eight, 1, 1);
        due("none left", x.ways(0, 0), 1296);
        int nine = x.expression(REPEATED, any, 9, -1);
        x.shape(0, BARE, nine, 1, 1);
        due("nine of eight", x.ways(0, 0), 0);
        int six = x.expression(REPEATED, any, 0, 6);
        x.shape(0, BARE, six, 1, 1);
        due("two or more left", x.ways(0, 0), 81 * (6 * 4 + 4 * 2 + 1));
        due("no arcs, one way", x.ways(15, 0), 1);
        x.shape(0, BARE, 0, 0, 0);
        due("no arcs, no way", x.ways(15, 0), 0);
        for (int bad : EDGES) {
            due("bad node", x.ways(bad, 0), BAD);
            due("bad shape", x.ways(0, bad), BAD);
        }
        due("node 16", x.ways(16, 0), BAD);
        due("shape 16", x.ways(0, 16), BAD);
    }

    private static void othersAreSorted() {
        ShexMatch x = new ShexMatch();
        int[][] arcs = {{4, 7, 0}, {4, 2, 9}, {4, 2, 3}, {4, 0, 15}, {3, 1, 9}, {2, 2, 9}, {15, 1, 9}};
        for (int[] a : arcs) {
            x.arc(a[0], a[1], a[2], true);
        }
        int[] outs = {15, 3, 9, 0};
        int[] ins = {3, 15, 2, 4};
        for (int i = 0; i < 4; i++) {
            due("out " + i, other(x, 4, true, i), outs[i]);
            due("in " + i, other(x, 9, false, i), ins[i]);
        }
        for (int i : new int[] {-1, 4, Integer.MIN_VALUE, Integer.MAX_VALUE}) {
            due("no out " + i, other(x, 4, true, i), THROWS);
            due("no in " + i, other(x, 9, false, i), THROWS);
        }
        for (int node : new int[] {-1, 16, Integer.MIN_VALUE, Integer.MAX_VALUE}) {
            due("no node out", other(x, node, true, 0), THROWS);
            due("no node in", other(x, node, false, 0), THROWS);
        }
        x.arc(4, 2, 3, false);
        due("moves up", other(x, 4, true, 1), 9);
        due("moves up", other(x, 4, true, 2), 0);
        due("one fewer", other(x, 4, true, 3), THROWS);
        due("none comes in", other(x, 3, false, 0), THROWS);
        x.arc(4, 2, 3, true);
        due("comes back to its place", other(x, 4, true, 1), 3);
        due("arcs", x.arcs(), 7);
    }
}
