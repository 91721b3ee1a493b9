import java.lang.reflect.Method;
import java.util.Arrays;

/**
 * Each sentence of the document that names a boundary case, with a test of its own: the sentence is
 * quoted, then its edge is tried from both sides, and after a refusal that nothing has changed.
 */
public final class ShexMatchEdgesTest {
    private static final int OUT = 0;
    private static final int IN = 1;
    private static final int BOTH = 2;
    private static final int EITHER = 3;
    private static final int REPEATED = 4;
    private static final int NOTHING = 5;
    private static final int NONE = -1;
    private static final int BARE = 0;
    private static final int AND = 1;
    private static final int OR = 2;
    private static final int NOT = 3;
    private static final int AMONG = 4;
    private static final int ANY = -1;
    private static final int BAD = -1;
    private static final int FULL = -2;
    private static final int WRONG = -3;
    private static final int THROWS = -1000;
    private static final int THROWS_ANOTHER = -1001;
    private static final int ALL = 0xFFFF;
    private static final int MIN = Integer.MIN_VALUE;
    private static final int MAX = Integer.MAX_VALUE;
    private static final int[] NO_NODES = {-1, 16, MIN, MAX};
    private static final int[] NO_SHAPES = {-1, 16, MIN, MAX};
    private static final int[] NO_LABELS = {-1, 8, MIN, MAX};

    private static int passed = 0;
    private static int failed = 0;
    private static String sentence = "";

    public static void main(String[] args) {
        face();
        terms();
        bagsOfExpressions();
        shapesOfNodes();
        rings();
        promiseNewObject();
        promiseArc();
        promiseExpression();
        promiseShape();
        promiseHas();
        promiseNodes();
        promiseWrong();
        promiseLoose();
        promiseWays();
        promiseArcs();
        promiseOther();
        neverThrowsByItself();
        System.out.println(passed + " passed, " + failed + " failed");
        if (failed != 0) {
            System.exit(1);
        }
    }

    private static void says(String words) {
        sentence = words;
    }

    private static void due(String what, int got, int want) {
        if (got == want) {
            passed++;
        } else {
            failed++;
            System.out.println("\"" + sentence + "\" " + what + ": answered " + got + ", due is " + want);
        }
    }

    private static int other(ShexMatch x, int node, boolean out, int i) {
        try {
            return x.other(node, out, i);
        } catch (RuntimeException e) {
            return e.getClass() == ArrayIndexOutOfBoundsException.class ? THROWS : THROWS_ANOTHER;
        }
    }

    /** An object with expressions, each row being kind, a, b, c. */
    private static ShexMatch with(int[]... rows) {
        ShexMatch x = new ShexMatch();
        for (int[] r : rows) {
            x.expression(r[0], r[1], r[2], r[3]);
        }
        return x;
    }

    private static int[] e(int kind, int a, int b, int c) {
        return new int[] {kind, a, b, c};
    }

    /** Node n, for n from 0 to 4, has n arcs of label 0 that go out (or come in). */
    private static void putCounts(ShexMatch x, boolean out) {
        for (int n = 1; n <= 4; n++) {
            for (int far = 5; far < 5 + n; far++) {
                due("an arc of a test", out ? x.arc(n, 0, far, true) : x.arc(far, 0, n, true), 1);
            }
        }
    }

    /** Which counts (bit n for n) of arcs of label 0 the last of the expressions allows. */
    private static int counts(boolean out, int[]... rows) {
        ShexMatch x = with(rows);
        putCounts(x, out);
        due("a shape of a test", x.shape(0, BARE, rows.length - 1, 0, 0), 1);
        return x.nodes(0) & 0b11111;
    }

    /** As a string of i * 10 + j, all allowed pairs of i arcs of label 0 and j of label 1, to 2 each. */
    private static String pairs(int[]... rows) {
        ShexMatch x = with(rows);
        int far = 0;
        for (int node = 0; node < 9; node++) {
            for (int k = 0; k < node / 3 + node % 3; k++) {
                due("an arc of a test", x.arc(node, k < node / 3 ? 0 : 1, 9 + far, true), 1);
                far = (far + 1) % 7;
            }
        }
        due("a shape of a test", x.shape(0, BARE, rows.length - 1, 0, 0), 1);
        StringBuilder found = new StringBuilder();
        for (int node = 0; node < 9; node++) {
            found.append(x.has(node, 0) == 1 ? " " + node / 3 + node % 3 : "");
        }
        return found.toString();
    }

    private static void duePairs(String what, String got, String want) {
        due(what + ", allowed are" + got + ",", got.equals(want) ? 1 : 0, 1);
    }

    /** Sixty arcs: four from each of the nodes 0 .. 14 to itself. */
    private static ShexMatch sixtyArcs() {
        ShexMatch x = new ShexMatch();
        for (int i = 0; i < 60; i++) {
            due("arc " + i + " of sixty", x.arc(i / 4, i % 4, i / 4, true), 1);
        }
        return x;
    }

    private static ShexMatch sixtyExpressions() {
        ShexMatch x = new ShexMatch();
        for (int i = 0; i < 60; i++) {
            due("expression " + i + " of sixty", x.expression(i == 0 ? OUT : REPEATED, 0, 0, i), i);
        }
        return x;
    }

    /** Shape 9 is BARE of a place of label 0, shape 8 is AMONG node 0, and shape 15 is NOT itself. */
    private static ShexMatch inWrongRing() {
        ShexMatch x = with(e(OUT, 0, ANY, 0));
        x.shape(9, BARE, 0, 0, 0);
        x.shape(8, AMONG, 1, 0, 0);
        due("a ring of a test", x.shape(15, NOT, 15, 0, 0), 1);
        return x;
    }

    // The public face

    private static void face() {
        says("public static final int BAD = -1; FULL = -2; WRONG = -3;");
        due("BAD", ShexMatch.BAD, BAD);
        due("FULL", ShexMatch.FULL, FULL);
        due("WRONG", ShexMatch.WRONG, WRONG);
        says("public int other(int node, boolean out, int i) throws ArrayIndexOutOfBoundsException;");
        for (Method m : ShexMatch.class.getMethods()) {
            if (m.getDeclaringClass() == ShexMatch.class) {
                Class<?>[] wanted = m.getName().equals("other")
                    ? new Class<?>[] {ArrayIndexOutOfBoundsException.class} : new Class<?>[0];
                due(m.getName(), Arrays.equals(m.getExceptionTypes(), wanted) ? 1 : 0, 1);
                due(m.getName() + " answers an int", m.getReturnType() == int.class ? 1 : 0, 1);
            }
        }
        says("An object is used for at most 512 calls after it has been made");
        ShexMatch x = new ShexMatch();
        for (int call = 1; call <= 510; call += 2) {
            due("call " + call, x.arc(3, 5, 3, true), 1);
            due("call " + (call + 1), x.arc(3, 5, 3, false), 1);
        }
        due("call 511", x.arc(3, 5, 3, true), 1);
        due("call 512", x.arcs(), 1);
        says("(objects of one run)");
        ShexMatch one = new ShexMatch();
        ShexMatch two = new ShexMatch();
        one.arc(0, 0, 0, true);
        one.expression(NOTHING, 0, 0, 0);
        one.shape(0, AMONG, 1, 0, 0);
        due("know nothing of one another's arcs", two.arcs(), 0);
        due("nor of their expressions", two.shape(1, BARE, 0, 0, 0), BAD);
        due("nor of their shapes", two.nodes(0), 0);
    }

    // Terms

    private static void terms() {
        nodesAre();
        labelsAre();
        arcsAtMost60();
        arcsNoneTwice();
        fourGoOut();
        fourComeIn();
        expressionsAtMost60();
        shapesAre();
        selfArcsAreTwo();
    }

    private static void nodesAre() {
        says("NODES are 0 .. 15");
        ShexMatch x = with(e(NOTHING, 0, 0, 0));
        x.shape(0, BARE, 0, 0, 0);
        for (int node : new int[] {0, 15}) {
            due("from " + node, x.arc(node, 0, 7, true), 1);
            due("to " + node, x.arc(7, 0, node, true), 1);
            due("has " + node, x.has(node, 0), 1);
            due("loose " + node, x.loose(node, 0), 0);
            due("ways " + node, x.ways(node, 0), 1);
            due("other, out of " + node, other(x, node, true, 0), 7);
            due("other, in to " + node, other(x, node, false, 0), 7);
        }
        for (int node : NO_NODES) {
            due("from " + node, x.arc(node, 0, 7, true), BAD);
            due("to " + node, x.arc(7, 0, node, true), BAD);
            due("has " + node, x.has(node, 0), BAD);
            due("loose " + node, x.loose(node, 0), BAD);
            due("ways " + node, x.ways(node, 0), BAD);
            due("other, out of " + node, other(x, node, true, 0), THROWS);
            due("other, in to " + node, other(x, node, false, 0), THROWS);
        }
        due("arcs of nodes alone", x.arcs(), 4);
    }

    private static void labelsAre() {
        says("LABELS 0 .. 7");
        ShexMatch x = new ShexMatch();
        due("label 0", x.arc(1, 0, 2, true), 1);
        due("label 7", x.arc(1, 7, 2, true), 1);
        due("OUT 0", x.expression(OUT, 0, ANY, 0), 0);
        due("OUT 7", x.expression(OUT, 7, ANY, 0), 1);
        due("IN 0", x.expression(IN, 0, ANY, 0), 2);
        due("IN 7", x.expression(IN, 7, ANY, 0), 3);
        for (int label : NO_LABELS) {
            due("comes " + label, x.arc(1, label, 2, true), BAD);
            due("goes " + label, x.arc(1, label, 2, false), BAD);
            due("OUT " + label, x.expression(OUT, label, ANY, 0), BAD);
            due("IN " + label, x.expression(IN, label, ANY, 0), BAD);
        }
        for (int s = 0; s < 4; s++) {
            x.shape(s, BARE, s, 0, 0);
            due("taken at the edges", x.nodes(s), s < 2 ? 1 << 1 : 1 << 2);
        }
    }

    private static void arcsAtMost60() {
        says("ARCS (from, label, to), at most 60");
        ShexMatch x = sixtyArcs();
        due("all of them", x.arcs(), 60);
        due("one more", x.arc(15, 0, 15, true), FULL);
        due("it did not come", x.arcs(), 60);
        due("nor out of its node", other(x, 15, true, 0), THROWS);
        due("nor in to it", other(x, 15, false, 0), THROWS);
        due("one that is there", x.arc(14, 3, 14, true), 0);
        due("one that is not there goes", x.arc(15, 0, 15, false), 0);
        due("no node", x.arc(16, 0, 15, true), BAD);
        due("no label", x.arc(15, 8, 15, true), BAD);
        due("one goes", x.arc(14, 3, 14, false), 1);
        due("room for one", x.arc(15, 0, 15, true), 1);
        due("and no more", x.arc(15, 1, 15, true), FULL);
        due("sixty again", x.arcs(), 60);
    }

    private static void arcsNoneTwice() {
        says("none twice");
        ShexMatch x = new ShexMatch();
        due("first", x.arc(1, 2, 3, true), 1);
        due("again", x.arc(1, 2, 3, true), 0);
        due("one", x.arcs(), 1);
        due("one goes out", other(x, 1, true, 1), THROWS);
        due("one comes in", other(x, 3, false, 1), THROWS);
        due("of another label it is another", x.arc(1, 3, 3, true), 1);
        due("to another node it is another", x.arc(1, 2, 4, true), 1);
        due("from another node it is another", x.arc(2, 2, 3, true), 1);
        due("turned round it is another", x.arc(3, 2, 1, true), 1);
        due("five", x.arcs(), 5);
        due("it goes once", x.arc(1, 2, 3, false), 1);
        due("and not twice", x.arc(1, 2, 3, false), 0);
        due("four", x.arcs(), 4);
    }

    private static void fourGoOut() {
        says("a node has at most 4 that go out");
        ShexMatch x = new ShexMatch();
        for (int i = 0; i < 4; i++) {
            due("arc " + i, x.arc(0, i, 10 + i, true), 1);
        }
        due("the fifth", x.arc(0, 4, 14, true), FULL);
        due("it did not come", x.arcs(), 4);
        due("not in to the other node either", other(x, 14, false, 0), THROWS);
        due("one that is there", x.arc(0, 3, 13, true), 0);
        due("one of another node", x.arc(1, 4, 14, true), 1);
        due("one that comes in", x.arc(14, 4, 0, true), 1);
        due("one goes", x.arc(0, 0, 10, false), 1);
        due("room again", x.arc(0, 4, 14, true), 1);
        due("for one", x.arc(0, 5, 14, true), FULL);
    }

    private static void fourComeIn() {
        says("and 4 that come in");
        ShexMatch x = new ShexMatch();
        for (int i = 0; i < 4; i++) {
            due("arc " + i, x.arc(10 + i, i, 0, true), 1);
        }
        due("the fifth", x.arc(14, 4, 0, true), FULL);
        due("it did not come", x.arcs(), 4);
        due("not out of the other node either", other(x, 14, true, 0), THROWS);
        due("one that is there", x.arc(13, 3, 0, true), 0);
        due("one to another node", x.arc(14, 4, 1, true), 1);
        due("one that goes out", x.arc(0, 4, 14, true), 1);
        due("one goes", x.arc(10, 0, 0, false), 1);
        due("room again", x.arc(14, 4, 0, true), 1);
        due("for one", x.arc(14, 5, 0, true), FULL);
    }

    private static void expressionsAtMost60() {
        says("EXPRESSIONS, at most 60, are numbered from 0.");
        ShexMatch x = sixtyExpressions();
        for (int kind = OUT; kind <= NOTHING; kind++) {
            due("one more, of kind " + kind, x.expression(kind, 0, 0, 0), FULL);
        }
        due("a part 59", x.expression(EITHER, 59, 59, 0), FULL);
        due("a part 60", x.expression(EITHER, 59, 60, 0), BAD);
        due("a kind that is none", x.expression(6, 0, 0, 0), BAD);
        due("a low that is none", x.expression(REPEATED, 0, -1, 0), BAD);
        due("a label that is none", x.expression(IN, 8, 0, 0), BAD);
        due("shape of the last", x.shape(0, BARE, 59, 0, 0), 1);
        due("shape of one more", x.shape(0, BARE, 60, 0, 0), BAD);
    }

    private static void shapesAre() {
        says("SHAPES are numbers 0 .. 15.");
        ShexMatch x = with(e(NOTHING, 0, 0, 0));
        for (int s : new int[] {0, 15}) {
            due("shape " + s, x.shape(s, BARE, 0, 0, 0), 1);
            due("has " + s, x.has(0, s), 1);
            due("nodes " + s, x.nodes(s), ALL);
            due("loose " + s, x.loose(0, s), 0);
            due("ways " + s, x.ways(0, s), 1);
            due("AND " + s, x.shape(1, AND, s, s, 0), 1);
            due("OR " + s, x.shape(2, OR, s, s, 0), 1);
            due("NOT " + s, x.shape(3, NOT, s, 0, 0), 1);
            due("a place of " + s, x.expression(OUT, 0, s, 0) > 0 ? 1 : 0, 1);
        }
        for (int s : NO_SHAPES) {
            for (int kind = NONE; kind <= AMONG; kind++) {
                due("shape " + s + " of kind " + kind, x.shape(s, kind, 0, 0, 0), BAD);
            }
            due("has " + s, x.has(0, s), BAD);
            due("nodes " + s, x.nodes(s), BAD);
            due("loose " + s, x.loose(0, s), BAD);
            due("ways " + s, x.ways(0, s), BAD);
            due("AND " + s, x.shape(1, AND, s, 0, 0), BAD);
            due("AND, second " + s, x.shape(1, AND, 0, s, 0), BAD);
            due("OR " + s, x.shape(2, OR, s, 0, 0), BAD);
            due("OR, second " + s, x.shape(2, OR, 0, s, 0), BAD);
            due("NOT " + s, x.shape(3, NOT, s, 0, 0), BAD);
        }
    }

    private static void selfArcsAreTwo() {
        says("(An arc from n to itself goes out and comes in: these are two.)");
        ShexMatch x = with(e(OUT, 0, ANY, 0), e(IN, 0, ANY, 0), e(BOTH, 0, 1, 0), e(EITHER, 0, 1, 0));
        x.arc(5, 0, 5, true);
        x.shape(0, BARE, 2, 0, 0);
        x.shape(1, BARE, 3, 0, 0);
        x.shape(2, BARE, 0, 0, 0);
        due("both places have one", x.nodes(0), 1 << 5);
        due("neither can be done without", x.nodes(1), 0);
        due("without IN only one is of concern", x.nodes(2), 1 << 5);
        due("one way", x.ways(5, 0), 1);
        due("but one arc is there", x.arcs(), 1);
        for (int label = 1; label < 4; label++) {
            due("label " + label, x.arc(5, label, 5, true), 1);
        }
        due("four fill what goes out", x.arc(5, 4, 6, true), FULL);
        due("and what comes in", x.arc(6, 4, 5, true), FULL);
        due("one goes", x.arc(5, 0, 5, false), 1);
        due("room to go out", x.arc(5, 4, 6, true), 1);
        due("no room for a fifth out of itself", x.arc(5, 0, 5, true), FULL);
        due("room to come in", x.arc(6, 4, 5, true), 1);
        due("and no more", x.arc(6, 5, 5, true), FULL);
    }

    // The bags that expressions allow

    private static void bagsOfExpressions() {
        placesOnce();
        bothTogether();
        eitherOne();
        repeatedLow();
        repeatedHigh();
        repeatedWithoutEnd();
        repeatedNone();
        repeatedEmptyParts();
        repeatedByOtherCounts();
        nothing();
        partsWereMadeBefore();
        onePlaceByWays();
        placesOfTwoParts();
        moreThanANodeHas();
        fivePlaces();
    }

    private static void placesOnce() {
        says("0 OUT label shape: the bag of itself once.");
        due("counts", counts(true, e(OUT, 0, ANY, 0)), 0b00010);
        due("arcs of another label", counts(true, e(OUT, 1, ANY, 0)), 0);
        due("arcs that come in", counts(false, e(OUT, 0, ANY, 0)), 0);
        says("1 IN label shape: likewise.");
        due("counts", counts(false, e(IN, 0, ANY, 0)), 0b00010);
        due("arcs of another label", counts(false, e(IN, 1, ANY, 0)), 0);
        due("arcs that go out", counts(true, e(IN, 0, ANY, 0)), 0);
    }

    private static void bothTogether() {
        says("2 BOTH a b: a bag of a and one of b together.");
        int[] zero = e(OUT, 0, ANY, 0);
        int[] one = e(OUT, 1, ANY, 0);
        duePairs("two labels", pairs(zero, one, e(BOTH, 0, 1, 0)), " 11");
        duePairs("more of one", pairs(zero, one, e(BOTH, 0, 1, 0), e(BOTH, 2, 0, 0)), " 21");
        duePairs("itself twice", pairs(zero, one, e(BOTH, 1, 1, 0), e(BOTH, 0, 2, 0)), " 12");
        duePairs("with none", pairs(zero, one, e(NOTHING, 0, 0, 0), e(EITHER, 1, 2, 0), e(BOTH, 0, 3, 0)), " 10 11");
        duePairs("b allows no bag", pairs(zero, one, e(REPEATED, 1, 1, 0), e(BOTH, 0, 2, 0)), "");
        duePairs("a allows no bag", pairs(zero, one, e(REPEATED, 1, 1, 0), e(BOTH, 2, 0, 0)), "");
        int[] double0 = e(BOTH, 0, 0, 0);
        due("four arcs", counts(true, zero, double0, e(BOTH, 1, 1, 0)), 0b10000);
        due("four arcs that come in", counts(false, e(IN, 0, ANY, 0), double0, e(BOTH, 1, 1, 0)), 0b10000);
        due("five, more than a node has", counts(true, zero, double0, e(BOTH, 1, 1, 0), e(BOTH, 2, 0, 0)), 0);
    }

    private static void eitherOne() {
        says("3 EITHER a b: a bag of a, or one of b.");
        int[] zero = e(OUT, 0, ANY, 0);
        int[] one = e(OUT, 1, ANY, 0);
        duePairs("not both", pairs(zero, one, e(EITHER, 0, 1, 0)), " 01 10");
        duePairs("with none", pairs(zero, one, e(NOTHING, 0, 0, 0), e(EITHER, 0, 2, 0), e(EITHER, 3, 1, 0)), " 00 01 10");
        duePairs("a allows no bag", pairs(zero, one, e(REPEATED, 0, 1, 0), e(EITHER, 2, 1, 0)), " 01");
        duePairs("b allows no bag", pairs(zero, one, e(REPEATED, 0, 1, 0), e(EITHER, 1, 2, 0)), " 01");
        duePairs("neither allows one", pairs(zero, one, e(REPEATED, 0, 1, 0), e(REPEATED, 1, 1, 0), e(EITHER, 2, 3, 0)), "");
        duePairs("itself", pairs(zero, one, e(BOTH, 0, 1, 0), e(EITHER, 2, 2, 0)), " 11");
    }

    private static int[][] repeatedPlace(boolean out, int low, int high) {
        return new int[][] {e(out ? OUT : IN, 0, ANY, 0), e(REPEATED, 0, low, high)};
    }

    private static void repeatedLow() {
        says("4 REPEATED a low high: k bags of a together, low <= k");
        for (boolean out : new boolean[] {true, false}) {
            due("low 0", counts(out, repeatedPlace(out, 0, 9)), 0b11111);
            due("low 1", counts(out, repeatedPlace(out, 1, 9)), 0b11110);
            due("low 4", counts(out, repeatedPlace(out, 4, 9)), 0b10000);
            due("low 5, more than a node has", counts(out, repeatedPlace(out, 5, 9)), 0);
            due("low as great as can be", counts(out, repeatedPlace(out, MAX, MAX)), 0);
        }
        int[] pair = e(BOTH, 0, 0, 0);
        due("pairs, low 1", counts(true, e(OUT, 0, ANY, 0), pair, e(REPEATED, 1, 1, 9)), 0b10100);
        due("pairs, low 2", counts(true, e(OUT, 0, ANY, 0), pair, e(REPEATED, 1, 2, 9)), 0b10000);
        due("pairs, low 3", counts(true, e(OUT, 0, ANY, 0), pair, e(REPEATED, 1, 3, 9)), 0);
    }

    private static void repeatedHigh() {
        says("k <= high");
        for (boolean out : new boolean[] {true, false}) {
            due("high 0", counts(out, repeatedPlace(out, 0, 0)), 0b00001);
            due("high 1", counts(out, repeatedPlace(out, 0, 1)), 0b00011);
            due("high 3", counts(out, repeatedPlace(out, 0, 3)), 0b01111);
            due("high 4", counts(out, repeatedPlace(out, 0, 4)), 0b11111);
            due("low and high the same", counts(out, repeatedPlace(out, 3, 3)), 0b01000);
            due("high as great as can be", counts(out, repeatedPlace(out, 2, MAX)), 0b11100);
        }
        int[] pair = e(BOTH, 0, 0, 0);
        due("pairs, high 1", counts(true, e(OUT, 0, ANY, 0), pair, e(REPEATED, 1, 0, 1)), 0b00101);
        ShexMatch x = with(e(OUT, 0, ANY, 0), e(IN, 0, ANY, 0), e(EITHER, 0, 1, 0),
            e(REPEATED, 2, 8, 8), e(REPEATED, 2, 0, 7), e(REPEATED, 2, 9, 9));
        for (int far = 1; far <= 4; far++) {
            x.arc(0, 0, far, true);
            x.arc(far, 0, 0, true);
        }
        for (int s = 3; s <= 5; s++) {
            x.shape(s, BARE, s, 0, 0);
        }
        due("all eight arcs that a node can have, 8 to 8", x.has(0, 3), 1);
        due("all eight, to 7", x.has(0, 4), 0);
        due("all eight, from 9", x.has(0, 5), 0);
        x.arc(4, 0, 0, false);
        due("seven, 8 to 8", x.has(0, 3), 0);
        due("seven, to 7", x.has(0, 4), 1);
    }

    private static void repeatedWithoutEnd() {
        says("(high -1: any k)");
        for (boolean out : new boolean[] {true, false}) {
            due("from 0", counts(out, repeatedPlace(out, 0, -1)), 0b11111);
            due("low is still the least", counts(out, repeatedPlace(out, 3, -1)), 0b11000);
            due("from 5", counts(out, repeatedPlace(out, 5, -1)), 0);
            due("from as many as can be", counts(out, repeatedPlace(out, MAX, -1)), 0);
        }
    }

    private static void repeatedNone() {
        says("none for high below low, but -1.");
        due("low 1, high 0", counts(true, repeatedPlace(true, 1, 0)), 0);
        due("low 4, high 3", counts(true, repeatedPlace(true, 4, 3)), 0);
        due("low 0, high -2", counts(true, repeatedPlace(true, 0, -2)), 0);
        due("low 0, the least high", counts(true, repeatedPlace(true, 0, MIN)), 0);
        due("the greatest low, the least high", counts(true, repeatedPlace(true, MAX, MIN)), 0);
        due("of NOTHING too", counts(true, e(NOTHING, 0, 0, 0), e(REPEATED, 0, 2, 1)), 0);
        due("no bag, repeated never, is the bag of none",
            counts(true, e(OUT, 0, ANY, 0), e(REPEATED, 0, 1, 0), e(REPEATED, 1, 0, 4)), 0b00001);
        due("no bag, repeated once, is no bag",
            counts(true, e(OUT, 0, ANY, 0), e(REPEATED, 0, 1, 0), e(REPEATED, 1, 1, 4)), 0);
        due("no bag, repeated without end",
            counts(true, e(OUT, 0, ANY, 0), e(REPEATED, 0, 1, 0), e(REPEATED, 1, 0, -1)), 0b00001);
    }

    private static void repeatedEmptyParts() {
        says("k bags of a together (the bag of none among them)");
        int[] place = e(OUT, 0, ANY, 0);
        int[] maybe = e(REPEATED, 0, 0, 1);
        due("each may be none", counts(true, place, maybe, e(REPEATED, 1, 3, 3)), 0b01111);
        due("as many as can be, each may be none", counts(true, place, maybe, e(REPEATED, 1, MAX, MAX)), 0b11111);
        due("as many as can be, without end", counts(true, place, maybe, e(REPEATED, 1, MAX, -1)), 0b11111);
        due("each is none", counts(true, place, e(REPEATED, 0, 0, 0), e(REPEATED, 1, 7, 7)), 0b00001);
        due("NOTHING many times",
            counts(true, place, e(NOTHING, 0, 0, 0), e(REPEATED, 1, MAX, -1), e(BOTH, 0, 2, 0)), 0b00010);
    }

    private static void repeatedByOtherCounts() {
        says("k bags of a together (the same sum by other counts too)");
        int[] place = e(OUT, 0, ANY, 0);
        int[] oneOrThree = e(EITHER, 0, 1, 0);
        int[] three = e(REPEATED, 0, 3, 3);
        due("one bag of 1 or 3", counts(true, place, three, oneOrThree, e(REPEATED, 2, 1, 1)), 0b01010);
        due("two bags of 1 or 3", counts(true, place, three, oneOrThree, e(REPEATED, 2, 2, 2)), 0b10100);
        due("three bags of 1 or 3", counts(true, place, three, oneOrThree, e(REPEATED, 2, 3, 3)), 0b01000);
        due("four bags of 1 or 3", counts(true, place, three, oneOrThree, e(REPEATED, 2, 4, 4)), 0b10000);
        due("three bags of 3 or 1", counts(true, place, three, e(EITHER, 1, 0, 0), e(REPEATED, 2, 3, 3)), 0b01000);
        due("four bags of 3 or 1", counts(true, place, three, e(EITHER, 1, 0, 0), e(REPEATED, 2, 4, 4)), 0b10000);
    }

    private static void nothing() {
        says("5 NOTHING: the bag of none.");
        ShexMatch x = with(e(NOTHING, 0, 0, 0));
        putCounts(x, true);
        x.shape(0, BARE, 0, 0, 0);
        x.shape(1, BARE, 0, 0, 1);
        x.shape(2, BARE, 0, 1, 1);
        due("open: no arc is of concern", x.nodes(0), ALL);
        due("closed: all that go out are", x.nodes(1), ALL & ~0b11110);
        due("closed: and in the way", x.loose(4, 1), 4);
        due("closed, in extra: all are left", x.nodes(2), ALL);
        due("one way to do nothing", x.ways(4, 2), 1);
    }

    private static void partsWereMadeBefore() {
        says("(Parts were made before.");
        ShexMatch x = new ShexMatch();
        due("before all", x.expression(BOTH, 0, 0, 0), BAD);
        due("before all", x.expression(EITHER, 0, 0, 0), BAD);
        due("before all", x.expression(REPEATED, 0, 0, 1), BAD);
        due("the first", x.expression(OUT, 0, ANY, 0), 0);
        due("its own number", x.expression(BOTH, 0, 1, 0), BAD);
        due("its own number first", x.expression(BOTH, 1, 0, 0), BAD);
        due("its own number", x.expression(EITHER, 0, 1, 0), BAD);
        due("its own number first", x.expression(EITHER, 1, 0, 0), BAD);
        due("its own number", x.expression(REPEATED, 1, 0, 1), BAD);
        due("a number that was made", x.expression(REPEATED, 0, 0, 1), 1);
        due("and that", x.expression(BOTH, 1, 1, 0), 2);
        for (int part : new int[] {-1, 3, 59, 60, MIN, MAX}) {
            due("BOTH " + part, x.expression(BOTH, part, 0, 0), BAD);
            due("BOTH, second " + part, x.expression(BOTH, 0, part, 0), BAD);
            due("EITHER " + part, x.expression(EITHER, part, 0, 0), BAD);
            due("EITHER, second " + part, x.expression(EITHER, 0, part, 0), BAD);
            due("REPEATED " + part, x.expression(REPEATED, part, 0, 1), BAD);
        }
        due("what was refused has no number", x.expression(NOTHING, 0, 0, 0), 3);
    }

    private static void onePlaceByWays() {
        says("One place that stands in an expression by several ways is one and the same place.)");
        ShexMatch x = with(e(OUT, 0, ANY, 0), e(REPEATED, 0, 0, -1), e(BOTH, 1, 1, 0), e(EITHER, 0, 2, 0));
        putCounts(x, true);
        x.shape(0, BARE, 3, 0, 0);
        due("four arcs have one way", x.ways(4, 0), 1);
        int like = x.expression(OUT, 0, ANY, 0);
        int both = x.expression(BOTH, 3, like, 0);
        x.shape(0, BARE, both, 0, 0);
        due("a like one that was made anew is another", x.ways(4, 0), 4);
    }

    private static void placesOfTwoParts() {
        says("2 BOTH a b; 3 EITHER a b (with places that both parts have, in any order)");
        int[] zero = e(OUT, 0, ANY, 0);
        int[] one = e(OUT, 1, ANY, 0);
        int[] comesIn = e(IN, 2, ANY, 0);
        ShexMatch x = with(zero, one, comesIn, e(BOTH, 0, 1, 0), e(BOTH, 0, 2, 0), e(BOTH, 3, 4, 0),
            e(EITHER, 3, 4, 0), e(BOTH, 2, 1, 0), e(BOTH, 3, 7, 0), e(BOTH, 7, 3, 0));
        int[][] arcs = {{0, 0, 8}, {0, 0, 9}, {0, 1, 8}, {9, 2, 0},
            {1, 0, 10}, {1, 1, 10}, {2, 0, 11}, {2, 1, 8}, {2, 1, 9}, {9, 2, 2}};
        for (int[] a : arcs) {
            due("an arc of a test", x.arc(a[0], a[1], a[2], true), 1);
        }
        int[] wanted = {1 << 0, 1 << 1, 1 << 2, 1 << 2};
        int[] numbers = {5, 6, 8, 9};
        for (int i = 0; i < numbers.length; i++) {
            x.shape(i, BARE, numbers[i], 0, 0);
            due("expression " + numbers[i], x.nodes(i), wanted[i]);
        }
    }

    private static void moreThanANodeHas() {
        says("a bag has each of them some times (more times than a node has arcs: never met)");
        for (int kind : new int[] {OUT, IN}) {
            boolean out = kind == OUT;
            ShexMatch x = with(e(kind, 0, ANY, 0), e(kind, 1, ANY, 0), e(REPEATED, 0, 4, 4), e(BOTH, 2, 0, 0),
                e(BOTH, 1, 1, 0), e(EITHER, 3, 4, 0), e(REPEATED, 0, 5, 5),
                e(EITHER, 6, 4, 0), e(EITHER, 0, 4, 0), e(REPEATED, 8, 5, 5));
            for (int arc = 0; arc < 6; arc++) {
                int node = arc == 0 ? 0 : arc < 3 ? 1 : 2;
                int label = node == 2 ? 0 : 1;
                due("an arc of a test", out ? x.arc(node, label, 8 + arc, true) : x.arc(8 + arc, label, node, true), 1);
            }
            x.shape(0, BARE, 5, 0, 0);
            x.shape(1, BARE, 7, 0, 0);
            x.shape(2, BARE, 9, 0, 0);
            due("five of one, or two of another, kind " + kind, x.nodes(0) & 0b111, 0b010);
            due("five repeated, or two of another, kind " + kind, x.nodes(1) & 0b111, 0b010);
            due("five bags of one or two, kind " + kind, x.nodes(2) & 0b111, 0);
        }
    }

    /** All bags of five places that a node can meet, for all numbers of places that are OUT. */
    private static void fivePlaces() {
        says("an expression with at most 5 places in it (each told from all others)");
        for (int outs = 0; outs <= 5; outs++) {
            for (int code = 0; code < 3125; code++) {
                int[] times = {code % 5, code / 5 % 5, code / 25 % 5, code / 125 % 5, code / 625};
                int goOut = 0;
                int all = 0;
                for (int i = 0; i < 5; i++) {
                    goOut += i < outs ? times[i] : 0;
                    all += times[i];
                }
                if (goOut <= 4 && all - goOut <= 4) {
                    oneBagOfFive(outs, times, all, 0);
                    oneBagOfFive(outs, times, all, 1);
                }
            }
        }
    }

    private static void oneBagOfFive(int outs, int[] times, int all, int side) {
        String what = Arrays.toString(times) + ", OUT are " + outs;
        ShexMatch x = new ShexMatch();
        int exact = x.expression(NOTHING, 0, 0, 0);
        int any = x.expression(REPEATED, exact, 1, 0);
        int place = -1;
        int last = -1;
        for (int i = 0; i < 5; i++) {
            place = x.expression(i < outs ? OUT : IN, i, ANY, 0);
            // Parts on either side in turn, so that places come to stand in all orders.
            int some = x.expression(REPEATED, place, times[i], times[i]);
            exact = i % 2 == side ? x.expression(BOTH, exact, some, 0) : x.expression(BOTH, some, exact, 0);
            any = i % 2 == side ? x.expression(EITHER, any, place, 0) : x.expression(EITHER, place, any, 0);
            for (int far = 1; far <= times[i]; far++) {
                due("an arc of a test", i < outs ? x.arc(0, i, far, true) : x.arc(far, i, 0, true), 1);
            }
            last = times[i] > 0 ? i : last;
        }
        int never = x.expression(REPEATED, place, 0, 0);
        x.shape(0, BARE, side == 0 ? exact : x.expression(BOTH, never, exact, 0), 0, 1);
        x.shape(1, BARE, x.expression(REPEATED, any, all, all), 0, 1);
        x.shape(2, BARE, x.expression(REPEATED, any, 0, all == 0 ? -2 : all - 1), 0, 1);
        due("as many as there are, " + what, x.ways(0, 0), 1);
        due("as many in all, " + what, x.ways(0, 1), 1);
        due("fewer in all, " + what, x.ways(0, 2), 0);
        if (last < 0) {
            return;
        }
        x.arc(last < outs ? 0 : 1, last, last < outs ? 1 : 0, false);
        due("one goes, " + what, x.ways(0, 0), 0);
        int swapped = last < outs ? (last + 1) % outs : outs + (last + 1 - outs) % (5 - outs);
        due("another comes, " + what, last < outs ? x.arc(0, swapped, 15, true) : x.arc(15, swapped, 0, true), 1);
        due("another came, " + what, x.ways(0, 0), swapped == last ? 1 : 0);
        due("as many in all again, " + what, x.ways(0, 1), 1);
    }

    // Shapes and who has them

    private static void shapesOfNodes() {
        noneAtFirst();
        noneOfEachKind();
        atMostFivePlaces();
        extraBits();
        amongBits();
        ofNoneShapes();
        shapeOfAPlace();
        concernOfOpen();
        concernOfClosed();
        leftInExtra();
    }

    private static void noneAtFirst() {
        says("Each is NONE (at first); NONE it never has.");
        ShexMatch x = new ShexMatch();
        for (int s = 0; s < 16; s++) {
            due("nodes " + s, x.nodes(s), 0);
            due("has " + s, x.has(s, s), 0);
        }
        due("becomes AMONG", x.shape(6, AMONG, ALL, 0, 0), 1);
        due("all have it", x.nodes(6), ALL);
        due("becomes NONE", x.shape(6, NONE, ALL, ALL, ALL), 1);
        due("none has it", x.nodes(6), 0);
        due("becomes NONE again", x.shape(6, NONE, 0, 0, 0), 1);
    }

    private static void noneOfEachKind() {
        says("A shape becomes of a kind (-1: NONE) (whatever it was)");
        for (int s = 0; s < 16; s++) {
            int not = (s + 1) % 16;
            for (int kind = NONE; kind <= AMONG; kind++) {
                ShexMatch x = with(e(OUT, 0, s, 0), e(REPEATED, 0, 0, 0), e(OUT, 0, not, 0));
                x.arc(0, 0, 1, true);
                x.shape(s, kind, kind == BARE ? 1 : s, s, 1);
                due("a NOT of itself is in a ring", x.wrong(), kind == NOT ? s : -1);
                due("becomes NONE", x.shape(s, NONE, 0, 0, 0), 1);
                due("no node has it", x.nodes(s), 0);
                due("it is not BARE", x.loose(0, s), BAD);
                due("it has no ways", x.ways(0, s), BAD);
                x.shape(not, NOT, s, 0, 0);
                due("a NOT of it", x.nodes(not), ALL);
                x.shape(s, kind, kind == BARE ? 2 : not, not, 1);
                due("refers to a NOT of it", x.wrong(), kind == NONE || kind == AMONG ? -1 : Math.min(s, not));
                due("becomes AMONG", x.shape(s, AMONG, 1 << 4, 0, 0), 1);
                due("refers to none", x.wrong(), -1);
                due("a NOT of it", x.nodes(not), ALL & ~(1 << 4));
                for (int t = 0; t < 16; t++) {
                    due("a NOT at " + t, t == s ? 1 : x.shape(t, NOT, s, 0, 0), 1);
                }
                due("AMONG refers to none of them", x.wrong(), -1);
                x.shape(s, NONE, 0, 0, 0);
                due("nor does NONE", x.wrong(), -1);
            }
        }
    }

    private static void atMostFivePlaces() {
        says("an expression with at most 5 places in it; BAD when the expression has too many places.");
        int[] joins = {BOTH, EITHER};
        for (int join : joins) {
            ShexMatch x = new ShexMatch();
            for (int i = 0; i < 6; i++) {
                x.expression(i % 2 == 0 ? OUT : IN, 0, ANY, 0);
            }
            int four = x.expression(join, x.expression(join, x.expression(join, 0, 1, 0), 2, 0), 3, 0);
            int five = x.expression(join, four, 4, 0);
            int twice = x.expression(join, five, four, 0);
            int six = x.expression(join, twice, 5, 0);
            int sixTheOtherWay = x.expression(join, 5, five, 0);
            int never = x.expression(REPEATED, six, 0, 0);
            int noBag = x.expression(REPEATED, six, 1, 0);
            int inside = x.expression(join, 0, never, 0);
            due("five", x.shape(0, BARE, five, 0, 0), 1);
            due("five, some twice", x.shape(0, BARE, twice, 0, 0), 1);
            for (int wide : new int[] {six, sixTheOtherWay, never, noBag, inside}) {
                due("six, expression " + wide, x.shape(0, BARE, wide, 0, 0), BAD);
                due("six, for a shape that is NONE", x.shape(1, BARE, wide, 0, 0), BAD);
            }
            due("the shape is what it was", x.loose(0, 0), 0);
            due("and NONE is NONE", x.loose(0, 1), BAD);
            due("part of six is good", x.shape(1, BARE, four, 0, 0), 1);
        }
    }

    private static void extraBits() {
        says("labels (bit l for label l); b extra (its lowest 8 bits)");
        ShexMatch x = with(e(NOTHING, 0, 0, 0));
        x.arc(1, 0, 0, true);
        x.arc(2, 7, 0, true);
        int one = 1 << 1;
        int two = 1 << 2;
        int[][] rows = {{0, one | two}, {1 << 0, two}, {1 << 7, one}, {0xFF, 0}, {0x7E, one | two},
            {-1, 0}, {0x100, one | two}, {MIN, one | two}, {0x1FF, 0}, {~0xFF, one | two}, {MAX, 0}};
        for (int[] r : rows) {
            due("extra " + r[0], x.shape(0, BARE, 0, r[0], 1), 1);
            due("all but those in the way, extra " + r[0], x.nodes(0), ALL & ~r[1]);
        }
    }

    private static void amongBits() {
        says("4 AMONG nodes (bit n for node n); of 4 a the nodes (its lowest 16 bits)");
        ShexMatch x = new ShexMatch();
        int[] nodeBits = {0, 1, 1 << 15, ALL, 1 << 16, -1, MIN, MAX, ~ALL, 0x18001};
        for (int bits : nodeBits) {
            due("among " + bits, x.shape(0, AMONG, bits, 0, 0), 1);
            due("nodes of " + bits, x.nodes(0), bits & ALL);
            due("node 0 of " + bits, x.has(0, 0), bits & 1);
            due("node 15 of " + bits, x.has(15, 0), bits >> 15 & 1);
        }
    }

    private static void ofNoneShapes() {
        says("(s, t are any shapes, be they none.)");
        ShexMatch x = new ShexMatch();
        x.shape(0, AMONG, 0xFF, 0, 0);
        due("AND none", x.shape(1, AND, 0, 14, 0), 1);
        due("none AND", x.shape(2, AND, 14, 0, 0), 1);
        due("OR none", x.shape(3, OR, 0, 14, 0), 1);
        due("none OR", x.shape(4, OR, 14, 0, 0), 1);
        due("NOT none", x.shape(5, NOT, 14, 0, 0), 1);
        due("AND of none twice", x.shape(6, AND, 14, 14, 0), 1);
        due("OR of none twice", x.shape(7, OR, 14, 14, 0), 1);
        int[] wanted = {0xFF, 0, 0, 0xFF, 0xFF, ALL, 0, 0};
        for (int s = 0; s < wanted.length; s++) {
            due("nodes of " + s, x.nodes(s), wanted[s]);
        }
        x.shape(14, AMONG, 0xF, 0, 0);
        due("when it comes, AND", x.nodes(1), 0xF);
        due("when it comes, NOT", x.nodes(5), ALL & ~0xF);
    }

    private static void shapeOfAPlace() {
        says("its shape is -1 (any node will do), or the other node HAS that shape");
        ShexMatch x = new ShexMatch();
        due("OUT to any", x.expression(OUT, 0, -1, 0), 0);
        due("IN from any", x.expression(IN, 0, -1, 0), 1);
        due("OUT to 0", x.expression(OUT, 0, 0, 0), 2);
        due("IN from 15", x.expression(IN, 0, 15, 0), 3);
        for (int s : new int[] {-2, 16, MIN, MAX}) {
            due("OUT to " + s, x.expression(OUT, 0, s, 0), BAD);
            due("IN from " + s, x.expression(IN, 0, s, 0), BAD);
        }
        x.arc(0, 0, 15, true);
        for (int s = 1; s <= 4; s++) {
            x.shape(s, BARE, s - 1, 0, 0);
        }
        due("any", x.nodes(1), 1 << 0);
        due("any comes in", x.nodes(2), 1 << 15);
        due("NONE will not do", x.nodes(3), 0);
        due("NONE will not do", x.nodes(4), 0);
        x.shape(0, AMONG, 1 << 15, 0, 0);
        x.shape(15, AMONG, 1 << 0, 0, 0);
        due("the other node has it", x.nodes(3), 1 << 0);
        due("the other node has it", x.nodes(4), 1 << 15);
        x.shape(0, AMONG, ~(1 << 15), 0, 0);
        x.shape(15, AMONG, ~(1 << 0), 0, 0);
        due("all but the other node have it", x.nodes(3), 0);
        due("all but the other node have it", x.nodes(4), 0);
    }

    private static void concernOfOpen() {
        says("Of concern are arcs that go out with the label of an OUT in e, or come in with that of an IN in e");
        ShexMatch x = with(e(OUT, 0, 9, 0), e(REPEATED, 0, 0, 0), e(IN, 1, 9, 0),
            e(REPEATED, 2, 0, 0), e(REPEATED, 0, 1, 0));
        x.arc(0, 0, 1, true);
        x.arc(2, 1, 0, true);
        x.arc(0, 2, 3, true);
        x.arc(4, 2, 0, true);
        x.shape(0, BARE, 1, 0, 0);
        x.shape(1, BARE, 3, 0, 0);
        due("of concern, though no place may have it", x.loose(0, 0), 1);
        due("so it is in the way", x.has(0, 0), 0);
        due("it comes in to its other node: of no concern there", x.has(1, 0), 1);
        due("one that comes in is of concern", x.loose(0, 1), 1);
        due("so it is in the way", x.has(0, 1), 0);
        due("it goes out from its other node: of no concern there", x.has(2, 1), 1);
        x.shape(9, AMONG, ALL, 0, 0);
        due("taken", x.loose(0, 0), 0);
        due("but no bag allows it", x.has(0, 0), 0);
        x.shape(2, BARE, 4, 0, 0);
        due("no bag at all: it can't be given", x.nodes(2), 0);
        due("though a place takes it", x.loose(0, 2), 0);
        x = with(e(OUT, 0, ANY, 0), e(IN, 1, ANY, 0), e(OUT, 2, ANY, 0), e(IN, 3, ANY, 0), e(EITHER, 0, 1, 0),
            e(EITHER, 2, 3, 0), e(EITHER, 4, 5, 0), e(REPEATED, 6, 0, 0));
        x.shape(0, BARE, 7, 0, 0);
        x.shape(1, BARE, 7, 0, 1);
        for (int label = 0; label < 4; label++) {
            x.arc(4 + label, label, label, true);
        }
        due("of all four labels, out and in", x.nodes(0), ALL & ~(1 << 4 | 1 << 1 | 1 << 6 | 1 << 3));
        due("closed, out of any label", x.nodes(1), ALL & ~(0b11110000 | 1 << 1 | 1 << 3));
    }

    private static void concernOfClosed() {
        says("if it is closed, all that go out (so that one of another label, not in extra, is in the way)");
        ShexMatch x = with(e(OUT, 0, ANY, 0));
        x.arc(0, 0, 1, true);
        due("closed", x.shape(0, BARE, 0, 0, 1), 1);
        due("of its label alone", x.has(0, 0), 1);
        x.arc(5, 6, 0, true);
        due("one that comes in is not in the way", x.has(0, 0), 1);
        x.arc(0, 6, 7, true);
        due("one of another label is", x.has(0, 0), 0);
        due("that one", x.loose(0, 0), 1);
        due("no way", x.ways(0, 0), 0);
        x.shape(0, BARE, 0, 1 << 6, 1);
        due("in extra it is not", x.has(0, 0), 1);
        due("nor loose", x.loose(0, 0), 0);
        due("one way", x.ways(0, 0), 1);
        says("c 1 when closed, else open");
        for (int c : new int[] {0, 2, -1, 3, 257, MIN, MAX}) {
            due("closed " + c, x.shape(0, BARE, 0, 0, c), 1);
            due("open for " + c, x.has(0, 0), 1);
        }
    }

    private static void leftInExtra() {
        says("but those that go out with a label in extra may be left");
        ShexMatch x = with(e(OUT, 0, ANY, 0), e(IN, 0, ANY, 0), e(OUT, 0, 9, 0));
        putCounts(x, true);
        x.shape(0, BARE, 0, 1, 0);
        due("none can be left of none: one must be given", x.nodes(0), 0b11110);
        for (int n = 1; n <= 4; n++) {
            due("any one may be the one that is given, of " + n, x.ways(n, 0), n);
        }
        x.shape(1, BARE, 2, 1, 0);
        due("they may all be left, but then the place has none", x.nodes(1), 0);
        due("none in the way", x.loose(4, 1), 0);
        x.shape(9, AMONG, 1 << 5, 0, 0);
        due("one that is taken, all others left", x.nodes(1), 0b11110);
        due("one way", x.ways(4, 1), 1);
        x.shape(2, BARE, 1, 0xFF, 0);
        due("what comes in may not be left", x.nodes(2), 1 << 8);
    }

    // Rings

    private static void rings() {
        says("the greatest sets for which all this is so at once");
        ShexMatch x = with(e(OUT, 0, 0, 0), e(IN, 0, 1, 0), e(REPEATED, 0, 0, -1));
        due("AND itself", x.shape(2, AND, 2, 2, 0), 1);
        due("all", x.nodes(2), ALL);
        due("OR itself and NONE", x.shape(2, OR, 2, 12, 0), 1);
        due("all", x.nodes(2), ALL);
        due("AND itself and NONE", x.shape(2, AND, 2, 12, 0), 1);
        due("none", x.nodes(2), 0);
        x.shape(2, NONE, 0, 0, 0);
        due("BARE to itself", x.shape(0, BARE, 0, 0, 0), 1);
        due("no arcs: none", x.nodes(0), 0);
        x.arc(15, 0, 15, true);
        due("an arc to itself", x.nodes(0), 1 << 15);
        for (int n = 0; n < 15; n++) {
            x.arc(n, 0, n + 1, true);
        }
        due("all that come to it, however far", x.nodes(0), ALL);
        due("a way", x.ways(0, 0), 1);
        x.arc(15, 0, 15, false);
        due("without an end that stays: none", x.nodes(0), 0);
        for (int s = 1; s < 16; s++) {
            x.shape(s, AMONG, ALL, 0, 0);
        }
        due("whatever the other shapes are", x.nodes(0), 0);
        x.arc(15, 0, 0, true);
        due("a ring of all nodes", x.nodes(0), ALL);
        x.shape(1, BARE, 1, 0, 0);
        due("and backwards", x.nodes(1), ALL);
        x.arc(15, 0, 0, false);
        due("open at one end, backwards", x.nodes(1), 0);
        x.shape(0, BARE, 2, 0, 0);
        due("as many arcs as there are, to itself", x.nodes(0), ALL);
        says("Where shapes refer to one another in a ring");
        for (int s = 0; s < 16; s++) {
            x.shape(s, s % 2 == 0 ? AND : OR, (s + 1) % 16, (s + 1) % 16, 0);
        }
        due("a ring of all shapes", x.nodes(7), ALL);
        x.shape(15, AMONG, 0x1234, 0, 0);
        due("cut, all are as its end", x.nodes(0), 0x1234);
        due("cut, no wrong ring", x.wrong(), -1);
    }

    // The promises

    private static void promiseNewObject() {
        says("No arcs, no expressions; all shapes are NONE.");
        ShexMatch x = new ShexMatch();
        due("arcs", x.arcs(), 0);
        for (int n = 0; n < 16; n++) {
            due("no arc out", other(x, n, true, 0), THROWS);
            due("no arc in", other(x, n, false, 0), THROWS);
            due("no expression", x.shape(n, BARE, 0, 0, 0), BAD);
            due("NONE has no ways", x.ways(n, n), BAD);
            due("NONE has nothing loose", x.loose(n, n), BAD);
            due("no node", x.nodes(n), 0);
        }
        due("no wrong ring", x.wrong(), -1);
        due("the first number", x.expression(NOTHING, 0, 0, 0), 0);
    }

    private static void promiseArc() {
        says("An arc comes (there = true) or goes: 1; 0 when it is there already, or is not.");
        ShexMatch x = new ShexMatch();
        due("goes, is not", x.arc(0, 0, 0, false), 0);
        due("nothing changed", x.arcs(), 0);
        due("comes", x.arc(0, 0, 0, true), 1);
        due("comes, is there", x.arc(0, 0, 0, true), 0);
        due("goes", x.arc(0, 0, 0, false), 1);
        due("goes, is not any more", x.arc(0, 0, 0, false), 0);
        due("comes again", x.arc(0, 0, 0, true), 1);
        due("goes, never was", x.arc(0, 0, 1, false), 0);
        due("one", x.arcs(), 1);
        says("BAD; FULL.");
        for (int node : NO_NODES) {
            for (boolean there : new boolean[] {true, false}) {
                due("from " + node, x.arc(node, 0, 0, there), BAD);
                due("to " + node, x.arc(0, 0, node, there), BAD);
                due("from and to " + node, x.arc(node, 0, node, there), BAD);
            }
        }
        // Where the node is no node, a neighbour's arc must not be met by mistake.
        due("label 7", x.arc(2, 7, 3, true), 1);
        due("label 8 is not label 0 of the next node", x.arc(2, 8, 3, false), BAD);
        due("to 19 is not label 8 or node 3", x.arc(2, 6, 19, false), BAD);
        due("still there", other(x, 2, true, 0), 3);
        x = sixtyArcs();
        due("what is there, when full", x.arc(7, 2, 7, true), 0);
        due("what is not there goes, when full", x.arc(7, 4, 7, false), 0);
        due("bad from, when full", x.arc(-1, 4, 7, true), BAD);
        due("bad label, when full", x.arc(7, -1, 7, true), BAD);
        due("bad to, when full", x.arc(7, 4, -1, true), BAD);
        due("full", x.arc(7, 4, 7, true), FULL);
        says("(an arc that comes or goes changes which nodes have shapes)");
        x = with(e(OUT, 0, ANY, 0));
        x.shape(0, BARE, 0, 0, 0);
        due("before", x.nodes(0), 0);
        x.arc(3, 0, 4, true);
        due("it came", x.nodes(0), 1 << 3);
        x.arc(3, 0, 4, false);
        due("it went", x.nodes(0), 0);
    }

    private static void promiseExpression() {
        says("An expression more: its number.");
        ShexMatch x = new ShexMatch();
        for (int kind = OUT; kind <= NOTHING; kind++) {
            due("kind " + kind, x.expression(kind, 0, 0, 0), kind);
        }
        says("BAD when the kind or a number is none");
        for (int kind : new int[] {-1, 6, MIN, MAX}) {
            due("kind " + kind, x.expression(kind, 0, 0, 0), BAD);
        }
        says("a, b low (0 or more), c high");
        due("low -1", x.expression(REPEATED, 0, -1, -1), BAD);
        due("low -1, high 5", x.expression(REPEATED, 0, -1, 5), BAD);
        due("the least low", x.expression(REPEATED, 0, MIN, 5), BAD);
        due("low 0", x.expression(REPEATED, 0, 0, 5), 6);
        due("the greatest low", x.expression(REPEATED, 0, MAX, 5), 7);
        due("high -1", x.expression(REPEATED, 0, 0, -1), 8);
        due("high below low is no BAD", x.expression(REPEATED, 0, 5, 4), 9);
        due("high -2 is no BAD", x.expression(REPEATED, 0, 0, -2), 10);
        due("the least high is no BAD", x.expression(REPEATED, 0, 0, MIN), 11);
        due("the greatest high", x.expression(REPEATED, 0, 0, MAX), 12);
        says("Of kind 0, 1: a the label, b the shape; of 2, 3 a and b (what is not named is not looked at)");
        due("OUT, c", x.expression(OUT, 0, ANY, MIN), 13);
        due("IN, c", x.expression(IN, 0, ANY, MAX), 14);
        due("BOTH, c", x.expression(BOTH, 0, 0, MIN), 15);
        due("EITHER, c", x.expression(EITHER, 0, 0, MAX), 16);
        due("NOTHING, a, b, c", x.expression(NOTHING, MIN, MAX, -9), 17);
        says("FULL");
        x = sixtyExpressions();
        due("one more", x.expression(NOTHING, 0, 0, 0), FULL);
        due("again", x.expression(OUT, 7, 15, 0), FULL);
        due("a bad shape, when full", x.expression(OUT, 7, 16, 0), BAD);
        due("a bad part, when full", x.expression(REPEATED, 60, 0, 0), BAD);
    }

    private static void promiseShape() {
        says("A shape becomes of a kind (-1: NONE): 1.");
        ShexMatch x = with(e(OUT, 0, ANY, 0));
        for (int kind = NONE; kind <= AMONG; kind++) {
            due("kind " + kind, x.shape(0, kind, 0, 0, 0), 1);
            due("kind " + kind + " again", x.shape(0, kind, 0, 0, 0), 1);
            due("BARE or not", x.loose(0, 0) == BAD ? 0 : 1, kind == BARE ? 1 : 0);
        }
        says("BAD when the shape, kind or a number is none");
        due("what it is", x.shape(0, AMONG, 0b1011, 0, 0), 1);
        for (int kind : new int[] {-2, 5, MIN, MAX}) {
            due("kind " + kind, x.shape(0, kind, 0, 0, 0), BAD);
        }
        for (int number : new int[] {-1, 1, 59, 60, MIN, MAX}) {
            due("expression " + number, x.shape(0, BARE, number, 0, 0), BAD);
        }
        for (int s : NO_SHAPES) {
            due("AND " + s, x.shape(0, AND, s, 1, 0), BAD);
            due("AND, second " + s, x.shape(0, AND, 1, s, 0), BAD);
            due("OR " + s, x.shape(0, OR, s, 1, 0), BAD);
            due("OR, second " + s, x.shape(0, OR, 1, s, 0), BAD);
            due("NOT " + s, x.shape(0, NOT, s, 0, 0), BAD);
        }
        due("it is still what it was", x.nodes(0), 0b1011);
        says("(what is not named is not looked at)");
        due("NONE", x.shape(1, NONE, MIN, MAX, MIN), 1);
        due("AND", x.shape(1, AND, 0, 0, MIN), 1);
        due("OR", x.shape(1, OR, 0, 0, MAX), 1);
        due("NOT", x.shape(1, NOT, 0, MIN, MAX), 1);
        due("AMONG", x.shape(1, AMONG, 1, MIN, MAX), 1);
        says("(nothing stays of what a shape was)");
        x.arc(0, 0, 1, true);
        x.arc(0, 1, 1, true);
        x.shape(2, BARE, 0, 0b10, 1);
        due("closed, with extra", x.has(0, 2), 1);
        x.shape(2, BARE, 0, 0, 1);
        due("closed, without extra", x.has(0, 2), 0);
        x.shape(2, BARE, 0, 0, 0);
        due("open", x.has(0, 2), 1);
        x.shape(2, NOT, 2, 0, 0);
        due("of itself", x.wrong(), 2);
        x.shape(2, BARE, 0, 0, 0);
        due("refers to nothing any more", x.wrong(), -1);
        due("as it was", x.nodes(2), 1);
    }

    private static void promiseHas() {
        says("Whether a node has a shape: 1 or 0.");
        ShexMatch x = new ShexMatch();
        x.shape(15, AMONG, 1 << 15, 0, 0);
        due("has", x.has(15, 15), 1);
        due("has not", x.has(14, 15), 0);
        due("has not NONE", x.has(15, 14), 0);
        says("BAD; WRONG when there is a ring that is.");
        for (int bad : NO_NODES) {
            due("node " + bad, x.has(bad, 15), BAD);
            due("shape " + bad, x.has(15, bad), BAD);
            due("both " + bad, x.has(bad, bad), BAD);
        }
        x = inWrongRing();
        due("in the ring", x.has(0, 15), WRONG);
        due("not in the ring", x.has(0, 8), WRONG);
        due("NONE", x.has(0, 0), WRONG);
        due("bad node all the same", x.has(16, 8), BAD);
        due("bad shape all the same", x.has(0, 16), BAD);
        x.shape(15, NONE, 0, 0, 0);
        due("no ring any more", x.has(0, 8), 1);
    }

    private static void promiseNodes() {
        says("All nodes that have a shape, as bits.");
        ShexMatch x = new ShexMatch();
        due("none", x.nodes(0), 0);
        x.shape(0, AMONG, 1 << 15 | 1, 0, 0);
        due("the first and the last", x.nodes(0), 0x8001);
        x.shape(1, NOT, 0, 0, 0);
        due("all others", x.nodes(1), 0x7FFE);
        x.shape(2, OR, 0, 1, 0);
        due("all, and no bit more", x.nodes(2), 65535);
        says("BAD; WRONG.");
        for (int bad : NO_SHAPES) {
            due("shape " + bad, x.nodes(bad), BAD);
        }
        x = inWrongRing();
        due("in the ring", x.nodes(15), WRONG);
        due("not in the ring", x.nodes(8), WRONG);
        due("NONE", x.nodes(0), WRONG);
        due("bad shape all the same", x.nodes(-1), BAD);
        x.shape(15, NOT, 8, 0, 0);
        due("no ring any more", x.nodes(15), ALL & ~1);
    }

    private static void promiseWrong() {
        says("The least shape that is in a ring that is WRONG; -1 when there is none.");
        ShexMatch x = new ShexMatch();
        due("all NONE", x.wrong(), -1);
        x.shape(0, NOT, 0, 0, 0);
        due("shape 0", x.wrong(), 0);
        due("and WRONG for has", x.has(0, 1), WRONG);
        due("and WRONG for nodes", x.nodes(1), WRONG);
        x.shape(0, NONE, 0, 0, 0);
        x.shape(15, NOT, 15, 0, 0);
        due("shape 15", x.wrong(), 15);
        x.shape(4, NOT, 3, 0, 0);
        due("a NOT in no ring", x.wrong(), 15);
        x.shape(3, OR, 9, 4, 0);
        due("the least of several rings", x.wrong(), 3);
        x.shape(2, NOT, 3, 0, 0);
        due("leads to a ring, is not in it", x.wrong(), 3);
        x.shape(9, AND, 1, 1, 0);
        due("the ring leads to it, it is not in it", x.wrong(), 3);
        x.shape(1, OR, 1, 1, 0);
        due("a ring without NOT is not wrong", x.wrong(), 3);
        x.shape(1, OR, 9, 4, 0);
        due("now it is in the ring", x.wrong(), 1);
        x.shape(4, AND, 3, 3, 0);
        due("without the NOT", x.wrong(), 15);
        x.shape(15, NONE, 0, 0, 0);
        due("none is left", x.wrong(), -1);
        says("A ring that goes through a NOT is WRONG (twice too)");
        x.shape(10, NOT, 11, 0, 0);
        x.shape(11, NOT, 10, 0, 0);
        due("two NOTs", x.wrong(), 10);
        x.shape(11, NOT, 12, 0, 0);
        due("a chain of NOTs", x.wrong(), -1);
        wrongThroughPlaces();
        wrongThroughAllShapes();
    }

    private static void wrongThroughPlaces() {
        says("(a BARE shape refers to the shapes of all places in its expression)");
        ShexMatch x = with(e(OUT, 0, 5, 0), e(IN, 0, 6, 0), e(REPEATED, 0, 0, 0), e(REPEATED, 1, 1, 0),
            e(EITHER, 2, 3, 0), e(OUT, 0, ANY, 0), e(BOTH, 5, 5, 0));
        x.shape(7, BARE, 4, 0, 0);
        x.shape(5, NOT, 7, 0, 0);
        due("a place that is never given an arc", x.wrong(), 5);
        x.shape(5, NONE, 0, 0, 0);
        due("it goes", x.wrong(), -1);
        x.shape(6, NOT, 7, 0, 0);
        due("a place of what allows no bag", x.wrong(), 6);
        x.shape(7, BARE, 6, 0, 0);
        due("places of any node refer to none", x.wrong(), -1);
        for (int s = 0; s < 7; s++) {
            x.shape(s, NOT, 7, 0, 0);
            due("not to " + s, x.wrong(), -1);
            x.shape(s, NONE, 0, 0, 0);
        }
        x.shape(7, BARE, 1, 0, 0);
        x.shape(5, NOT, 7, 0, 0);
        due("nor to the shape of a place of another expression", x.wrong(), -1);
        x.shape(6, NOT, 5, 0, 0);
        due("by way of two", x.wrong(), 5);
        x.shape(6, NOT, 7, 0, 0);
        due("by one", x.wrong(), 6);
        x.shape(5, AND, 7, 7, 0);
        x.shape(7, BARE, 0, 0, 0);
        due("a ring without NOT, and a NOT of it", x.wrong(), -1);
        x.shape(7, BARE, 0, 0, 1);
        x.arc(0, 0, 0, true);
        due("has it by the ring", x.nodes(7), 1);
        due("NOT of the ring", x.nodes(6), ALL & ~1);
    }

    private static void wrongThroughAllShapes() {
        says("(a ring of all shapes)");
        ShexMatch x = new ShexMatch();
        for (int s = 0; s < 16; s++) {
            x.shape(s, s == 9 ? NOT : OR, (s + 5) % 16, (s + 5) % 16, 0);
        }
        due("one NOT in it", x.wrong(), 0);
        x.shape(9, AND, 14, 14, 0);
        due("no NOT in it", x.wrong(), -1);
        due("all have all", x.nodes(3), ALL);
    }

    private static void promiseLoose() {
        says("how many of a node's arcs of concern for a BARE shape no place takes");
        ShexMatch x = with(e(OUT, 0, 9, 0), e(IN, 0, 9, 0), e(EITHER, 0, 1, 0), e(REPEATED, 2, 0, -1));
        due("without arcs", x.shape(0, BARE, 3, 0, 0), 1);
        due("without arcs", x.loose(0, 0), 0);
        for (int far = 1; far <= 4; far++) {
            x.arc(0, 0, far, true);
            x.arc(far, 0, 0, true);
        }
        due("all eight", x.loose(0, 0), 8);
        x.shape(9, AMONG, 1 << 1, 0, 0);
        due("all but those to and from 1", x.loose(0, 0), 6);
        x.shape(9, AMONG, ALL, 0, 0);
        due("none", x.loose(0, 0), 0);
        x.shape(0, BARE, 0, 0, 0);
        due("taken, though all at once can't be given", x.loose(0, 0), 0);
        due("can't be given", x.has(0, 0), 0);
        says("(those in extra do not count)");
        x.shape(9, NONE, 0, 0, 0);
        x.shape(0, BARE, 3, 0xFE, 1);
        due("not in extra", x.loose(0, 0), 8);
        x.shape(0, BARE, 3, 1, 1);
        due("in extra; what comes in can't be", x.loose(0, 0), 4);
        x.shape(0, BARE, 0, 1, 1);
        due("in extra; what comes in is of no concern", x.loose(0, 0), 0);
        says("BAD when it is none such; WRONG.");
        for (int bad : NO_NODES) {
            due("node " + bad, x.loose(bad, 0), BAD);
            due("shape " + bad, x.loose(0, bad), BAD);
        }
        due("NONE", x.loose(0, 1), BAD);
        for (int kind = AND; kind <= AMONG; kind++) {
            x.shape(1, kind, 0, 0, 0);
            due("of kind " + kind, x.loose(0, 1), BAD);
        }
        x = inWrongRing();
        due("in a wrong ring", x.loose(0, 9), WRONG);
        due("bad node all the same", x.loose(16, 9), BAD);
        due("bad shape all the same", x.loose(0, 16), BAD);
        due("a shape that is not BARE all the same", x.loose(0, 15), BAD);
        due("NONE all the same", x.loose(0, 0), BAD);
    }

    private static void promiseWays() {
        says("How many ways there are to give a node's arcs of concern to places (or leave them)");
        ShexMatch x = new ShexMatch();
        for (int i = 0; i < 5; i++) {
            x.expression(i < 2 ? OUT : IN, 0, ANY, 0);
        }
        int any = 0;
        for (int i = 1; i < 5; i++) {
            any = x.expression(EITHER, any, i, 0);
        }
        int all = x.expression(REPEATED, any, 0, -1);
        x.shape(0, BARE, all, 1, 0);
        x.shape(1, BARE, 0, 0, 0);
        due("without arcs, and none is needed: one", x.ways(0, 0), 1);
        due("without arcs, and one is needed: none", x.ways(0, 1), 0);
        for (int far = 1; far <= 4; far++) {
            x.arc(0, 0, far, true);
            x.arc(far, 0, 0, true);
        }
        due("too many for its place: none", x.ways(0, 1), 0);
        says("1000000 when there are more.");
        due("the most that five places and eight arcs have: 3^4 * 3^4, all told", x.ways(0, 0), 6561);
        x.shape(0, BARE, all, 0, 0);
        due("none may be left: 2^4 * 3^4", x.ways(0, 0), 1296);
        says("BAD; WRONG.");
        for (int bad : NO_NODES) {
            due("node " + bad, x.ways(bad, 0), BAD);
            due("shape " + bad, x.ways(0, bad), BAD);
        }
        due("NONE", x.ways(0, 2), BAD);
        for (int kind = AND; kind <= AMONG; kind++) {
            x.shape(2, kind, 0, 0, 0);
            due("of kind " + kind, x.ways(0, 2), BAD);
        }
        x = inWrongRing();
        due("in a wrong ring", x.ways(0, 9), WRONG);
        due("bad node all the same", x.ways(16, 9), BAD);
        due("bad shape all the same", x.ways(0, 16), BAD);
        due("a shape that is not BARE all the same", x.ways(0, 15), BAD);
        due("NONE all the same", x.ways(0, 0), BAD);
    }

    private static void promiseArcs() {
        says("How many arcs there are.");
        ShexMatch x = new ShexMatch();
        due("none", x.arcs(), 0);
        x.arc(0, 0, 0, true);
        due("one to itself is one", x.arcs(), 1);
        x.arc(0, 0, 0, true);
        due("there already", x.arcs(), 1);
        x.arc(16, 0, 0, true);
        due("a bad one", x.arcs(), 1);
        x.arc(0, 0, 1, false);
        due("one goes that is not there", x.arcs(), 1);
        x.arc(0, 0, 0, false);
        due("none again", x.arcs(), 0);
        due("the most", sixtyArcs().arcs(), 60);
        x = inWrongRing();
        x.arc(0, 0, 0, true);
        due("in a wrong ring", x.arcs(), 1);
    }

    private static void promiseOther() {
        says("(out = true; by label, then by node) or come in (likewise)");
        int[][] rows = {{7, 0}, {0, 15}, {7, 15}, {0, 0}};
        int[] wanted = {0, 15, 0, 15};
        ShexMatch x = new ShexMatch();
        for (int[] r : rows) {
            x.arc(4, r[0], r[1], true);
            x.arc(r[1], r[0], 5, true);
        }
        for (int i = 0; i < 4; i++) {
            due("out " + i, other(x, 4, true, i), wanted[i]);
            due("in " + i, other(x, 5, false, i), wanted[i]);
        }
        says("There are as many as the node has, and no others");
        for (int i : new int[] {-1, 4, 5, 16, MIN, MAX}) {
            due("out " + i, other(x, 4, true, i), THROWS);
            due("in " + i, other(x, 5, false, i), THROWS);
        }
        due("none comes in to it", other(x, 4, false, 0), THROWS);
        due("none goes out from it", other(x, 5, true, 0), THROWS);
        for (int left = 3; left >= 0; left--) {
            int[] gone = rows[left];
            x.arc(4, gone[0], gone[1], false);
            x.arc(gone[1], gone[0], 5, false);
            due("out, the first behind the last", other(x, 4, true, left), THROWS);
            due("in, the first behind the last", other(x, 5, false, left), THROWS);
            due("out, the last", other(x, 4, true, left - 1) == THROWS ? 0 : 1, left > 0 ? 1 : 0);
            due("in, the last", other(x, 5, false, left - 1) == THROWS ? 0 : 1, left > 0 ? 1 : 0);
        }
        for (int node : new int[] {0, 15}) {
            for (int gone = 0; gone < 4; gone++) {
                for (int label = 0; label < 4; label++) {
                    x.arc(node, label, 4 + label, true);
                    x.arc(8 + label, label, node, true);
                }
                due("one of four goes from " + node, x.arc(node, gone, 4 + gone, false), 1);
                due("one of four goes to " + node, x.arc(8 + gone, gone, node, false), 1);
                for (int i = 0; i < 3; i++) {
                    due("three are left out of " + node, other(x, node, true, i), 4 + (i < gone ? i : i + 1));
                    due("three are left in to " + node, other(x, node, false, i), 8 + (i < gone ? i : i + 1));
                }
                due("and no fourth out of " + node, other(x, node, true, 3), THROWS);
                due("and no fourth in to " + node, other(x, node, false, 3), THROWS);
            }
        }
        says("none of what is no node.");
        x = sixtyArcs();
        for (int node : NO_NODES) {
            for (int i = -1; i <= 4; i++) {
                due("out of " + node + ", " + i, other(x, node, true, i), THROWS);
                due("in to " + node + ", " + i, other(x, node, false, i), THROWS);
            }
        }
        due("the last node, none", other(x, 15, true, 0), THROWS);
        due("the node before it, its last", other(x, 14, true, 3), 14);
        due("a throw changes nothing", x.arcs(), 60);
        x = inWrongRing();
        x.arc(3, 2, 1, true);
        due("in a wrong ring", other(x, 3, true, 0), 1);
    }

    // All calls with all kinds of numbers

    private static final int[] WILD = {MIN, MIN + 1, -65536, -17, -2, -1, 0, 1, 2, 3, 4, 5, 6, 7, 8, 15, 16, 17, 31, 32,
        59, 60, 61, 64, 65535, 65536, MAX - 1, MAX};

    /** A new object in one of four states: new, full of arcs and expressions, with shapes, in a wrong ring. */
    private static ShexMatch inState(int state) {
        ShexMatch x = new ShexMatch();
        for (int i = 0; state == 1 && i < 60; i++) {
            x.arc(i / 4, i % 4, i / 4, true);
            x.expression(i < 5 ? i % 2 : i % 2 == 0 ? EITHER : REPEATED, i < 5 ? i % 2 : i - 1, i < 5 ? ANY : i % 4, -1);
        }
        for (int i = 0; state >= 2 && i < 16; i++) {
            x.arc(i, i % 3, (i * 5 + 1) % 16, true);
            x.expression(i < 8 ? i % 2 : BOTH, i % 8, i < 8 ? i : i % 3, 0);
            x.shape(i, i % 5, (i + 3) % 8, i, i % 2);
        }
        for (int i = 0; state == 2 && i < 16; i++) {
            x.shape(i, i % 5 == NOT ? NONE : i % 5, (i + 3) % 8, i, i % 2);
        }
        return x;
    }

    private static void neverThrowsByItself() {
        says("No call may ever throw by itself");
        for (int state = 0; state < 4; state++) {
            ShexMatch x = inState(state);
            int calls = 0;
            for (int a : WILD) {
                for (int b : WILD) {
                    for (int c : WILD) {
                        // An object is for 512 calls: at most 120 bring it to its state, and each turn has under 30.
                        x = calls % 12 == 0 ? inState(state) : x;
                        calls++;
                        wildCalls(x, a, b, c, WILD[calls % WILD.length]);
                    }
                }
            }
        }
    }

    private static void wildCalls(ShexMatch x, int a, int b, int c, int d) {
        try {
            int answers = Math.min(x.arc(a, b, c, true), x.arc(b, c, a, false));
            answers = Math.min(answers, Math.min(x.has(a, b), x.nodes(c)));
            answers = Math.min(answers, Math.min(x.loose(a, b), x.ways(a, c)));
            for (int kind = -2; kind <= 6; kind++) {
                answers = Math.min(answers, x.expression(kind, a, b, c));
                answers = Math.min(answers, kind < 0 ? 0 : x.shape(a, kind, b, c, d));
            }
            answers = Math.min(answers, Math.min(x.wrong(), x.arcs()));
            int far = other(x, a, b > c, d);
            due("least answer", answers >= WRONG ? 1 : 0, 1);
            due("other", far == THROWS || far >= 0 && far < 16 ? 1 : 0, 1);
        } catch (RuntimeException e) {
            due("of " + a + ", " + b + ", " + c + ", " + d + " thrown is " + e, 0, 1);
        }
    }
}
