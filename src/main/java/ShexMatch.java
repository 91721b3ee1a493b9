import java.util.Arrays;

/** Shapes of nodes in a graph; the document of the project says what each call promises. */
public final class ShexMatch {
    public static final int BAD = -1;
    public static final int FULL = -2;
    public static final int WRONG = -3;

    private static final int NODES = 16;
    private static final int ALL_NODES = 0xFFFF;
    private static final int LABELS = 8;
    private static final int ALL_LABELS = 0xFF;
    private static final int SHAPES = 16;
    private static final int ANY_SHAPE = -1;
    private static final int MOST_ARCS = 60;
    private static final int MOST_AT_NODE = 4;
    private static final int MOST_EXPRESSIONS = 60;
    private static final int MOST_PLACES = 5;
    private static final int MOST_WAYS = 1000000;
    private static final int NO_END = -1;

    private static final int OUT = 0;
    private static final int IN = 1;
    private static final int BOTH = 2;
    private static final int EITHER = 3;
    private static final int REPEATED = 4;
    private static final int NOTHING = 5;

    private static final int NONE = -1;
    private static final int BARE = 0;
    private static final int AND = 1;
    private static final int OR = 2;
    private static final int NOT = 3;
    private static final int AMONG = 4;

    private final Graph graph;
    private final Expressions expressions;
    private final Shape[] shapes;
    private final Matcher matcher;
    private final Solver solver;

    public ShexMatch() {
        BagTable first = new BagTable();
        graph = new Graph();
        expressions = new Expressions(first);
        shapes = new Shape[SHAPES];
        for (int s = 0; s < SHAPES; s++) {
            shapes[s] = new Shape();
        }
        matcher = new Matcher(graph, first, new BagTable());
        solver = new Solver(shapes, matcher);
    }

    public int arc(int from, int label, int to, boolean there) {
        if (!isNode(from) || !isLabel(label) || !isNode(to)) {
            return BAD;
        }
        int answer = there ? graph.put(from, label, to) : graph.drop(from, label, to);
        if (answer == 1) {
            solver.noteArcs();
        }
        return answer;
    }

    public int expression(int kind, int a, int b, int c) {
        switch (kind) {
            case OUT:
            case IN:
                return addPlace(kind == OUT, a, b);
            case BOTH:
            case EITHER:
                return addPair(kind == BOTH, a, b);
            case REPEATED:
                return addRepeated(a, b, c);
            case NOTHING:
                return expressions.isFull() ? FULL : expressions.addNothing();
            default:
                return BAD;
        }
    }

    public int shape(int shape, int kind, int a, int b, int c) {
        if (!isShape(shape) || !setShape(shapes[shape], kind, a, b, c)) {
            return BAD;
        }
        solver.noteShapes();
        return 1;
    }

    public int has(int node, int shape) {
        if (!isNode(node) || !isShape(shape)) {
            return BAD;
        }
        return solver.settled() ? solver.holders[shape] >> node & 1 : WRONG;
    }

    public int nodes(int shape) {
        if (!isShape(shape)) {
            return BAD;
        }
        return solver.settled() ? solver.holders[shape] : WRONG;
    }

    public int wrong() {
        return solver.leastWrong();
    }

    public int loose(int node, int shape) {
        if (!isNode(node) || !isBare(shape)) {
            return BAD;
        }
        return solver.settled() ? matcher.countLoose(node, shapes[shape], solver.holders) : WRONG;
    }

    public int ways(int node, int shape) {
        if (!isNode(node) || !isBare(shape)) {
            return BAD;
        }
        return solver.settled() ? matcher.countWays(node, shapes[shape], solver.holders) : WRONG;
    }

    public int arcs() {
        return graph.size;
    }

    public int other(int node, boolean out, int i) throws ArrayIndexOutOfBoundsException {
        if (!isNode(node)) {
            throw new ArrayIndexOutOfBoundsException("no such node");
        }
        ArcRows rows = out ? graph.out : graph.in;
        if (i < 0 || i >= rows.count(node)) {
            throw new ArrayIndexOutOfBoundsException("no such arc");
        }
        return Graph.otherOf(rows.key(node, i));
    }

    private static boolean isNode(int node) {
        return node >= 0 && node < NODES;
    }

    private static boolean isLabel(int label) {
        return label >= 0 && label < LABELS;
    }

    private static boolean isShape(int shape) {
        return shape >= 0 && shape < SHAPES;
    }

    private boolean isBare(int shape) {
        return isShape(shape) && shapes[shape].kind == BARE;
    }

    private int addPlace(boolean out, int label, int shape) {
        if (!isLabel(label) || shape != ANY_SHAPE && !isShape(shape)) {
            return BAD;
        }
        return expressions.isFull() ? FULL : expressions.addPlace(out, label, shape);
    }

    private int addPair(boolean both, int a, int b) {
        Expression left = expressions.find(a);
        Expression right = expressions.find(b);
        if (left == null || right == null) {
            return BAD;
        }
        return expressions.isFull() ? FULL : expressions.addPair(both, left, right);
    }

    private int addRepeated(int a, int low, int high) {
        Expression part = expressions.find(a);
        if (part == null || low < 0) {
            return BAD;
        }
        return expressions.isFull() ? FULL : expressions.addRepeated(part, low, high);
    }

    /** Whether the kind and its numbers are good; the shape is changed only then. */
    private boolean setShape(Shape shape, int kind, int a, int b, int c) {
        switch (kind) {
            case NONE:
                shape.becomeNone();
                return true;
            case BARE:
                return setBare(shape, a, b & ALL_LABELS, c == 1);
            case AND:
            case OR:
                if (!isShape(a) || !isShape(b)) {
                    return false;
                }
                shape.becomePair(kind, a, b);
                return true;
            case NOT:
                if (!isShape(a)) {
                    return false;
                }
                shape.becomeNot(a);
                return true;
            case AMONG:
                shape.becomeAmong(a & ALL_NODES);
                return true;
            default:
                return false;
        }
    }

    private boolean setBare(Shape shape, int number, int extra, boolean closed) {
        Expression found = expressions.find(number);
        if (found == null || found.wide) {
            return false;
        }
        shape.becomeBare(found, extra, closed);
        return true;
    }

    /** The arcs of all nodes in one direction; those of a node stand by label, then by the other node. */
    private static final class ArcRows {
        private final int[] keys = new int[NODES * MOST_AT_NODE];
        private final int[] counts = new int[NODES];

        int count(int node) {
            return counts[node];
        }

        int key(int node, int i) {
            return keys[node * MOST_AT_NODE + i];
        }

        boolean isFull(int node) {
            return counts[node] >= MOST_AT_NODE;
        }

        /** Where the key stands in the node's row, or -1. */
        int indexOf(int node, int key) {
            for (int i = 0; i < counts[node]; i++) {
                if (key(node, i) == key) {
                    return i;
                }
            }
            return -1;
        }

        void insert(int node, int key) {
            if (isFull(node)) {
                return;
            }
            int start = node * MOST_AT_NODE;
            int at = start + counts[node];
            while (at > start && keys[at - 1] > key) {
                keys[at] = keys[at - 1];
                at--;
            }
            keys[at] = key;
            counts[node]++;
        }

        void remove(int node, int key) {
            int found = indexOf(node, key);
            if (found < 0) {
                return;
            }
            int start = node * MOST_AT_NODE;
            for (int i = found; i + 1 < counts[node]; i++) {
                keys[start + i] = keys[start + i + 1];
            }
            counts[node]--;
        }
    }

    private static final class Graph {
        final ArcRows out = new ArcRows();
        final ArcRows in = new ArcRows();
        int size;

        /** Label before node, so that keys sort as the document lists arcs. */
        static int keyOf(int label, int node) {
            return label * NODES + node;
        }

        static int labelOf(int key) {
            return key / NODES;
        }

        static int otherOf(int key) {
            return key % NODES;
        }

        int put(int from, int label, int to) {
            int key = keyOf(label, to);
            if (out.indexOf(from, key) >= 0) {
                return 0;
            }
            if (size >= MOST_ARCS || out.isFull(from) || in.isFull(to)) {
                return FULL;
            }
            out.insert(from, key);
            in.insert(to, keyOf(label, from));
            size++;
            return 1;
        }

        int drop(int from, int label, int to) {
            int key = keyOf(label, to);
            if (out.indexOf(from, key) < 0) {
                return 0;
            }
            out.remove(from, key);
            in.remove(to, keyOf(label, from));
            size--;
            return 1;
        }
    }

    /**
     * A bag as one int: in its low bits a number with a base-5 digit for each slot of an
     * expression's places, above it how many of them are OUT, and above that how many are IN.
     * A node has at most 4 arcs each way, so no bag with more of either can ever be met; such bags
     * are dropped, and so no digit is ever above 4 and bags are added like plain numbers.
     */
    private static final class Bag {
        static final int EMPTY = 0;
        /** Two indexes added, before it is known whether the sum fits, still leave the counts above alone. */
        static final int INDEX_BITS = 14;
        static final int INDEX_MASK = (1 << INDEX_BITS) - 1;
        static final int ONE_OUT = 1 << INDEX_BITS;
        static final int ONE_IN = 1 << (INDEX_BITS + 4);
        static final int DIGITS = MOST_AT_NODE + 1;
        static final int INDEXES = 3125;
        /** With p OUT and q IN places, p + q = 5, there are C(p+4, 4) * C(q+4, 4) bags: most for 2 and 3. */
        static final int MOST = 525;
        static final int MOST_IN_BAG = 2 * MOST_AT_NODE;
        private static final int[] POWERS = {1, 5, 25, 125, 625, 3125};

        /** How many indexes there are with so many slots. */
        static int indexesOf(int slots) {
            return slots >= 0 && slots < POWERS.length ? POWERS[slots] : INDEXES;
        }

        static int ofOne(int slot, boolean out) {
            return indexesOf(slot) + (out ? ONE_OUT : ONE_IN);
        }

        /** A count from 5 to 8 and 3 more reaches the highest of its four bits; one to 4 does not. */
        static boolean fits(int bag) {
            return ((bag + 3 * (ONE_OUT + ONE_IN)) & (8 * (ONE_OUT + ONE_IN))) == 0;
        }

        /** The same bag, its digits in the slots that the same places have in another row. */
        static int moved(int bag, Place[] from, Place[] to) {
            int rest = bag & INDEX_MASK;
            int result = bag - rest;
            for (int slot = 0; slot < from.length; slot++) {
                result += rest % DIGITS * indexesOf(Place.slotOf(to, from[slot].number));
                rest /= DIGITS;
            }
            return result;
        }
    }

    /** Bags, none twice, in the order in which they came, each with a value. */
    private static final class BagTable {
        /** For each index the spot behind the bag's own, so that 0 means that it is not here. */
        private final int[] spots = new int[Bag.INDEXES];
        final int[] bags = new int[Bag.MOST];
        final int[] values = new int[Bag.MOST];
        int size;

        void clear() {
            for (int i = 0; i < size; i++) {
                spots[bags[i] & Bag.INDEX_MASK] = 0;
            }
            size = 0;
        }

        /** Where the bag stands (its index is enough to tell it), or -1. */
        int spotOf(int bag) {
            int index = bag & Bag.INDEX_MASK;
            return index >= Bag.INDEXES ? -1 : spots[index] - 1;
        }

        /** Where the bag stands; a new one comes with the value 0. -1 for one that is no bag. */
        int enter(int bag) {
            int index = bag & Bag.INDEX_MASK;
            if (index >= Bag.INDEXES) {
                return -1;
            }
            if (spots[index] == 0 && size < Bag.MOST) {
                bags[size] = bag;
                values[size] = 0;
                size++;
                spots[index] = size;
            }
            return spots[index] - 1;
        }

        void addTo(int bag, int amount) {
            int spot = enter(bag);
            if (spot >= 0) {
                values[spot] += amount;
            }
        }

        void markIn(int bag, int bits) {
            int spot = enter(bag);
            if (spot >= 0) {
                values[spot] |= bits;
            }
        }
    }

    /** An expression of kind OUT or IN. */
    private static final class Place {
        final int number;
        final boolean out;
        final int label;
        final int shape;

        Place(int number, boolean out, int label, int shape) {
            this.number = number;
            this.out = out;
            this.label = label;
            this.shape = shape;
        }

        static int slotOf(Place[] places, int number) {
            for (int slot = 0; slot < places.length; slot++) {
                if (places[slot].number == number) {
                    return slot;
                }
            }
            return -1;
        }

        /** The places of a, and behind them those of b that are not among them: a's keep their slots. */
        static Place[] union(Place[] a, Place[] b) {
            int size = a.length;
            for (int i = 0; i < b.length; i++) {
                size += slotOf(a, b[i].number) < 0 ? 1 : 0;
            }
            Place[] result = new Place[size];
            for (int i = 0; i < a.length; i++) {
                result[i] = a[i];
            }
            int filled = a.length;
            for (int i = 0; i < b.length; i++) {
                if (slotOf(a, b[i].number) < 0 && filled < size) {
                    result[filled] = b[i];
                    filled++;
                }
            }
            return result;
        }

        boolean takes(boolean goesOut, int arcLabel, int otherNode, int[] holders) {
            return out == goesOut && label == arcLabel
                && (shape == ANY_SHAPE || ((holders[shape] >> otherNode) & 1) != 0);
        }
    }

    private static final class Expression {
        /** Whether it has too many places for a shape; then neither they nor its bags are kept. */
        final boolean wide;
        final Place[] places;
        final int[] bags;
        final int outLabels;
        final int inLabels;
        final int refersTo;

        Expression(boolean wide, Place[] places, int[] bags) {
            this.wide = wide;
            this.places = places;
            this.bags = bags;
            int outBits = 0;
            int inBits = 0;
            int shapeBits = 0;
            for (int i = 0; i < places.length; i++) {
                Place place = places[i];
                outBits |= place.out ? 1 << place.label : 0;
                inBits |= place.out ? 0 : 1 << place.label;
                shapeBits |= place.shape == ANY_SHAPE ? 0 : 1 << place.shape;
            }
            outLabels = outBits;
            inLabels = inBits;
            refersTo = shapeBits;
        }
    }

    /** All expressions; the bags that each allows are found once, when it is made. */
    private static final class Expressions {
        private final Expression[] made = new Expression[MOST_EXPRESSIONS];
        private final BagTable table;
        private int count;

        Expressions(BagTable table) {
            this.table = table;
        }

        boolean isFull() {
            return count >= MOST_EXPRESSIONS;
        }

        /** The expression of a number, or null. */
        Expression find(int number) {
            return number < 0 || number >= count ? null : made[number];
        }

        private int keep(boolean wide, Place[] places, int[] bags) {
            if (isFull()) {
                return FULL;
            }
            made[count] = new Expression(wide, places, bags);
            count++;
            return count - 1;
        }

        private int keepWide() {
            return keep(true, new Place[0], new int[0]);
        }

        int addPlace(boolean out, int label, int shape) {
            Place[] places = {new Place(count, out, label, shape)};
            int[] bags = {Bag.ofOne(0, out)};
            return keep(false, places, bags);
        }

        int addNothing() {
            int[] bags = {Bag.EMPTY};
            return keep(false, new Place[0], bags);
        }

        int addPair(boolean both, Expression a, Expression b) {
            if (a.wide || b.wide) {
                return keepWide();
            }
            Place[] places = Place.union(a.places, b.places);
            if (places.length > MOST_PLACES) {
                return keepWide();
            }
            int[] moved = new int[b.bags.length];
            for (int i = 0; i < moved.length; i++) {
                moved[i] = Bag.moved(b.bags[i], b.places, places);
            }
            return keep(false, places, both ? together(a.bags, moved) : eitherOf(a.bags, moved));
        }

        int addRepeated(Expression part, int low, int high) {
            if (part.wide) {
                return keepWide();
            }
            return keep(false, part.places, repeated(part, low, high));
        }

        private int[] together(int[] a, int[] b) {
            table.clear();
            for (int i = 0; i < a.length; i++) {
                for (int j = 0; j < b.length; j++) {
                    if (Bag.fits(a[i] + b[j])) {
                        table.enter(a[i] + b[j]);
                    }
                }
            }
            return Arrays.copyOf(table.bags, table.size);
        }

        private int[] eitherOf(int[] a, int[] b) {
            table.clear();
            for (int i = 0; i < a.length; i++) {
                table.enter(a[i]);
            }
            for (int j = 0; j < b.length; j++) {
                table.enter(b[j]);
            }
            return Arrays.copyOf(table.bags, table.size);
        }

        /**
         * An empty part changes no sum, so only parts that are not empty are counted: if an empty
         * one may fill up, any count to high will do, and otherwise it must not be below low.
         */
        private int[] repeated(Expression part, int low, int high) {
            if (high != NO_END && high < low) {
                return new int[0];
            }
            countParts(part);
            int least = holdsEmpty(part.bags) ? 0 : low;
            int most = high == NO_END ? Bag.MOST_IN_BAG : Math.min(high, Bag.MOST_IN_BAG);
            int good = 0;
            for (int parts = least; parts <= most; parts++) {
                good |= 1 << parts;
            }
            return bagsMarked(good);
        }

        private static boolean holdsEmpty(int[] bags) {
            for (int i = 0; i < bags.length; i++) {
                if (bags[i] == Bag.EMPTY) {
                    return true;
                }
            }
            return false;
        }

        /**
         * Puts every sum of parts that are not empty into the table, with bit k if k parts make it.
         * A sum's index is above those of what it was made from, so each is ready when its turn comes.
         */
        private void countParts(Expression part) {
            table.clear();
            table.markIn(Bag.EMPTY, 1);
            int end = Bag.indexesOf(part.places.length);
            for (int index = 0; index < end; index++) {
                int spot = table.spotOf(index);
                for (int i = 0; spot >= 0 && i < part.bags.length; i++) {
                    int sum = table.bags[spot] + part.bags[i];
                    if (part.bags[i] != Bag.EMPTY && Bag.fits(sum)) {
                        table.markIn(sum, table.values[spot] << 1);
                    }
                }
            }
        }

        private int[] bagsMarked(int good) {
            int found = 0;
            for (int i = 0; i < table.size; i++) {
                found += (table.values[i] & good) != 0 ? 1 : 0;
            }
            int[] result = new int[found];
            int filled = 0;
            for (int i = 0; i < table.size; i++) {
                if ((table.values[i] & good) != 0 && filled < found) {
                    result[filled] = table.bags[i];
                    filled++;
                }
            }
            return result;
        }
    }

    private static final class Shape {
        int kind = NONE;
        /** The first shape of AND, OR and NOT, or the nodes of AMONG. */
        int first;
        int second;
        /** Only a BARE shape has one; else null. */
        Expression bare;
        int extra;
        boolean closed;
        int refersTo;

        void becomeNone() {
            kind = NONE;
            first = 0;
            second = 0;
            bare = null;
            extra = 0;
            closed = false;
            refersTo = 0;
        }

        void becomeBare(Expression allowed, int extraLabels, boolean isClosed) {
            becomeNone();
            kind = BARE;
            bare = allowed;
            extra = extraLabels;
            closed = isClosed;
            refersTo = allowed.refersTo;
        }

        void becomePair(int pairKind, int s, int t) {
            becomeNone();
            kind = pairKind;
            first = s;
            second = t;
            refersTo = 1 << s | 1 << t;
        }

        void becomeNot(int s) {
            becomeNone();
            kind = NOT;
            first = s;
            refersTo = 1 << s;
        }

        void becomeAmong(int nodeBits) {
            becomeNone();
            kind = AMONG;
            first = nodeBits;
        }
    }

    /** Gives the arcs of one node to the places of one BARE shape. */
    private static final class Matcher {
        /** In an arc's options: bit s for the place in slot s, and this bit if it may be left. */
        private static final int LEAVE = 1 << MOST_PLACES;

        private final Graph graph;
        private final BagTable firstTable;
        private final BagTable secondTable;
        /** What can be done with each of the arcs of concern. */
        private final int[] options = new int[2 * MOST_AT_NODE];
        private int concerned;

        Matcher(Graph graph, BagTable firstTable, BagTable secondTable) {
            this.graph = graph;
            this.firstTable = firstTable;
            this.secondTable = secondTable;
        }

        /** Those of the nodes that have a BARE shape, if other nodes have what the holders say. */
        int matching(int nodeBits, Shape shape, int[] holders) {
            int result = 0;
            for (int node = 0; node < NODES; node++) {
                int bit = 1 << node;
                if ((nodeBits & bit) != 0 && countWays(node, shape, holders) > 0) {
                    result |= bit;
                }
            }
            return result;
        }

        int countLoose(int node, Shape shape, int[] holders) {
            gather(node, shape, holders);
            int result = 0;
            for (int i = 0; i < concerned; i++) {
                result += options[i] == 0 ? 1 : 0;
            }
            return result;
        }

        int countWays(int node, Shape shape, int[] holders) {
            Expression bare = shape.bare;
            if (bare == null) {
                return 0;
            }
            gather(node, shape, holders);
            BagTable now = firstTable;
            BagTable next = secondTable;
            now.clear();
            now.addTo(Bag.EMPTY, 1);
            for (int i = 0; i < concerned && now.size > 0; i++) {
                giveArc(options[i], bare.places, now, next);
                BagTable done = now;
                now = next;
                next = done;
            }
            return sumAllowed(bare.bags, now);
        }

        private void giveArc(int choices, Place[] places, BagTable now, BagTable next) {
            next.clear();
            for (int i = 0; i < now.size; i++) {
                if ((choices & LEAVE) != 0) {
                    next.addTo(now.bags[i], now.values[i]);
                }
                for (int slot = 0; slot < places.length; slot++) {
                    if ((choices >> slot & 1) != 0) {
                        next.addTo(now.bags[i] + Bag.ofOne(slot, places[slot].out), now.values[i]);
                    }
                }
            }
        }

        private static int sumAllowed(int[] bags, BagTable given) {
            int sum = 0;
            for (int i = 0; i < bags.length; i++) {
                int spot = given.spotOf(bags[i]);
                if (spot >= 0) {
                    sum = Math.min(MOST_WAYS, sum + given.values[spot]);
                }
            }
            return sum;
        }

        private void gather(int node, Shape shape, int[] holders) {
            concerned = 0;
            Expression bare = shape.bare;
            if (bare == null) {
                return;
            }
            for (int i = 0; i < graph.out.count(node); i++) {
                int key = graph.out.key(node, i);
                int label = 1 << Graph.labelOf(key);
                if (shape.closed || (bare.outLabels & label) != 0) {
                    int leave = (shape.extra & label) != 0 ? LEAVE : 0;
                    addConcerned(leave | takers(bare.places, true, key, holders));
                }
            }
            for (int i = 0; i < graph.in.count(node); i++) {
                int key = graph.in.key(node, i);
                if ((bare.inLabels >> Graph.labelOf(key) & 1) != 0) {
                    addConcerned(takers(bare.places, false, key, holders));
                }
            }
        }

        private void addConcerned(int choices) {
            if (concerned < options.length) {
                options[concerned] = choices;
                concerned++;
            }
        }

        private static int takers(Place[] places, boolean goesOut, int key, int[] holders) {
            int result = 0;
            for (int slot = 0; slot < places.length; slot++) {
                if (places[slot].takes(goesOut, Graph.labelOf(key), Graph.otherOf(key), holders)) {
                    result |= 1 << slot;
                }
            }
            return result;
        }
    }

    /** Which nodes have which shapes; found anew only when asked for after a change. */
    private static final class Solver {
        /** Each shape has a first turn, and each node that leaves a set gives every shape one more. */
        private static final int MOST_TURNS = SHAPES + SHAPES * NODES * SHAPES;

        private final Shape[] shapes;
        private final Matcher matcher;
        /** For each shape all shapes to which it leads, by one reference or more. */
        private final int[] reach = new int[SHAPES];
        /** For each shape the nodes that have it. */
        final int[] holders = new int[SHAPES];
        private int leastInWrongRing = -1;
        private boolean ringsStale;
        private boolean holdersStale;

        Solver(Shape[] shapes, Matcher matcher) {
            this.shapes = shapes;
            this.matcher = matcher;
            ringsStale = true;
            holdersStale = true;
        }

        void noteArcs() {
            holdersStale = true;
        }

        void noteShapes() {
            ringsStale = true;
            holdersStale = true;
        }

        int leastWrong() {
            if (ringsStale) {
                ringsStale = false;
                findReach();
                leastInWrongRing = findLeastWrong();
            }
            return leastInWrongRing;
        }

        private void findReach() {
            for (int s = 0; s < SHAPES; s++) {
                reach[s] = shapes[s].refersTo;
            }
            for (int via = 0; via < SHAPES; via++) {
                for (int s = 0; s < SHAPES; s++) {
                    if (leads(s, via)) {
                        reach[s] |= reach[via];
                    }
                }
            }
        }

        private boolean leads(int s, int t) {
            return (reach[s] >> t & 1) != 0;
        }

        private int findLeastWrong() {
            for (int s = 0; s < SHAPES; s++) {
                for (int t = 0; t < SHAPES; t++) {
                    if (shapes[t].kind == NOT && leads(s, t) && leads(t, s)) {
                        return s;
                    }
                }
            }
            return -1;
        }

        /**
         * Whether the holders are as they must be; they can't be while a ring is wrong.
         * A shape and all to which it leads are more than those of any shape to which it leads and
         * which does not lead back. So by their count, shapes of a ring come together and what they
         * need comes before them; above all what a NOT needs, since it is in no ring.
         */
        boolean settled() {
            if (leastWrong() >= 0) {
                return false;
            }
            if (!holdersStale) {
                return true;
            }
            holdersStale = false;
            for (int size = 1; size <= SHAPES; size++) {
                int group = 0;
                for (int s = 0; s < SHAPES; s++) {
                    group |= Integer.bitCount(reach[s] | 1 << s) == size ? 1 << s : 0;
                }
                settleGroup(group);
            }
            return true;
        }

        /** All nodes to begin with, then fewer until nothing more goes: the greatest sets. */
        private void settleGroup(int group) {
            for (int s = 0; s < SHAPES; s++) {
                if ((group >> s & 1) != 0) {
                    holders[s] = ALL_NODES;
                }
            }
            int pending = group;
            for (int turn = 0; turn < MOST_TURNS && pending != 0; turn++) {
                int s = Integer.numberOfTrailingZeros(pending);
                pending &= pending - 1;
                Shape shape = shapes[s];
                int before = holders[s];
                holders[s] &= shape.kind == BARE ? matcher.matching(before, shape, holders) : combined(shape);
                if (holders[s] != before) {
                    pending |= group & thoseThatReferTo(s);
                }
            }
        }

        private int combined(Shape shape) {
            switch (shape.kind) {
                case AND:
                    return holders[shape.first] & holders[shape.second];
                case OR:
                    return holders[shape.first] | holders[shape.second];
                case NOT:
                    return ALL_NODES & ~holders[shape.first];
                case AMONG:
                    return shape.first;
                default:
                    return 0;
            }
        }

        private int thoseThatReferTo(int shape) {
            int result = 0;
            for (int s = 0; s < SHAPES; s++) {
                result |= (shapes[s].refersTo >> shape & 1) != 0 ? 1 << s : 0;
            }
            return result;
        }
    }
}
