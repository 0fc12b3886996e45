import java.util.Arrays;
import java.util.stream.IntStream;

/** For each sentence of the document that names an edge a test of its own. */
public final class WayTableEdges {
    private static final int LOW = Integer.MIN_VALUE;
    private static final int HIGH = Integer.MAX_VALUE;
    private static final int NONE = -1;
    private static final int CALLS = 512;

    private static int wrong = 0;
    private static String sentence = "";

    private static void report(String what) {
        wrong++;
        System.out.println("'" + sentence + "': " + what);
    }

    /** An object with the answer that is due from the next call; the document allows 512 calls. */
    private static final class Probe {
        private final WayTable x = new WayTable();
        private int calls = 0;
        private int want = 0;

        Probe due(int answer) {
            want = answer;
            return this;
        }

        Probe due(boolean answer) {
            return due(answer ? 1 : 0);
        }

        private void count() {
            calls++;
            if (calls > CALLS) {
                report("the test makes more than " + CALLS + " calls");
            }
        }

        private void check(int got, String name, int... args) {
            count();
            if (got != want) {
                report(name + Arrays.toString(args) + " answered " + got + ", due is " + want);
            }
        }

        private void check(boolean got, String name, int... args) {
            check(got ? 1 : 0, name, args);
        }

        void begin(int nodes, int letters) {
            check(x.begin(nodes, letters), "begin", nodes, letters);
        }

        void on(int from, int letter, int to) {
            check(x.way(from, letter, to, true), "way on", from, letter, to);
        }

        void off(int from, int letter, int to) {
            check(x.way(from, letter, to, false), "way off", from, letter, to);
        }

        void fill(int letter, int to) {
            check(x.fill(letter, to), "fill", letter, to);
        }

        void turn() {
            count();
            x.turn();
        }

        void start(int node) {
            check(x.start(node), "start", node);
        }

        void make() {
            check(x.make(), "make");
        }

        void home() {
            count();
            x.home();
        }

        void go(int letter) {
            check(x.go(letter), "go", letter);
        }

        void to(int state, int letter) {
            check(x.to(state, letter), "to", state, letter);
        }

        void nodes(int set) {
            check(x.nodes(set), "nodes", set);
        }

        void state(int set) {
            check(x.state(set), "state", set);
        }

        void apart(int a, int b) {
            check(x.apart(a, b), "apart", a, b);
        }

        void apartBy(int a, int b, int i) {
            check(x.apartBy(a, b, i), "apartBy", a, b, i);
        }

        void is(int from, int letter, int to) {
            check(x.is(from, letter, to), "is", from, letter, to);
        }

        void look(int which) {
            check(x.look(which), "look", which);
        }

        void looks(int first, int... answers) {
            for (int i = 0; i < answers.length; i++) {
                due(answers[i]).look(first + i);
            }
        }

        /** The row by which two states are told apart, in both orders, and its ends. */
        void row(int a, int b, int... letters) {
            due(letters.length).apart(a, b);
            due(letters.length).apart(b, a);
            for (int i = 0; i < letters.length; i++) {
                due(letters[i]).apartBy(a, b, i);
                due(letters[i]).apartBy(b, a, i);
            }
            due(NONE).apartBy(a, b, letters.length);
            due(NONE).apartBy(b, a, -1);
        }
    }

    /** Numbers that name none of so many: the next ones, the ends of int, and wrap-arounds. */
    private static int[] beyond(int count) {
        return IntStream.of(LOW, LOW + 1, -(1 << 29), -32, -2, -1, count, count + 1, 24, 32,
                count + 32, 40, 120, 121, 1 << 16, 1 << 29, 1 << 30, HIGH - 1, HIGH)
                .filter(number -> number < 0 || number >= count).distinct().toArray();
    }

    private static Probe begun(int nodes, int letters) {
        Probe p = new Probe();
        p.due(true).begin(nodes, letters);
        return p;
    }

    /** Nodes in a row, by letter 0, the last of them without a way; the table is made. */
    private static Probe madeChain(int nodes, int letters) {
        Probe p = begun(nodes, letters);
        for (int node = 0; node + 1 < nodes; node++) {
            p.due(true).on(node, 0, node + 1);
        }
        p.due(nodes).make();
        return p;
    }

    private static void ring(Probe p, int first, int size) {
        for (int k = 0; k < size; k++) {
            p.due(true).on(first + k, 0, first + (k + 1) % size);
        }
    }

    private static void fillAll(Probe p, int nodes, int letters) {
        for (int letter = 0; letter < letters; letter++) {
            for (int to = 0; to < nodes; to++) {
                p.due(nodes).fill(letter, to);
            }
        }
    }

    /** START goes round 15 nodes, and by letter 1 round these and 7 others at once: 120 sets. */
    private static Probe twoRings() {
        Probe p = begun(23, 3);
        ring(p, 0, 15);
        ring(p, 15, 7);
        p.due(true).on(0, 1, 0);
        p.due(true).on(0, 1, 15);
        return p;
    }

    /** The pairs 3 6, 3 7 and so on, up to 9 23, which is pair 116. */
    private static int[] pair(int k) {
        int first = 3;
        int second = 6;
        for (int i = 0; i < k; i++) {
            second++;
            if (second > 23) {
                first++;
                second = first + 1;
            }
        }
        return new int[] {first, second};
    }

    private static void onToPair(Probe p, int from, int letter, int k) {
        p.due(true).on(from, letter, pair(k)[0]);
        p.due(true).on(from, letter, pair(k)[1]);
    }

    /**
     * Nodes 0, 1 and 2 lead to pairs of the nodes 3 .. 23, of which each goes on by the letter of
     * its own number alone, to 0, but 23 by that of 22, to 1: 3 sets of one node and 117 pairs,
     * no two alike.
     */
    private static Probe mostStates() {
        Probe p = begun(24, 40);
        p.due(true).on(0, 0, 1);
        p.due(true).on(0, 1, 2);
        for (int letter = 2; letter < 40; letter++) {
            onToPair(p, 0, letter, letter - 2);
        }
        for (int letter = 0; letter < 40; letter++) {
            onToPair(p, 1, letter, 38 + letter);
        }
        for (int letter = 0; letter < 39; letter++) {
            onToPair(p, 2, letter, 78 + letter);
        }
        for (int node = 3; node < 23; node++) {
            p.due(true).on(node, node, 0);
        }
        p.due(true).on(23, 22, 1);
        return p;
    }

    /** In that table two letters part the states 0 and 1, so three part what goes to them. */
    private static int mostStatesApart(int low, int high) {
        if (low == high) {
            return 0;
        }
        if (low < 3) {
            return high == 1 ? 2 : 1;
        }
        int[] one = pair(low - 3);
        int[] other = pair(high - 3);
        return one[0] == other[0] && one[1] == 22 && other[1] == 23 ? 3 : 1;
    }

    /**
     * Two nodes lead by letter 0 into rings of 9 and 13, that is into one of 117 sets, of which
     * the last alone does not go on by letter 1: 119 states, as sets are 0 .. 118 along the way.
     */
    private static Probe longestRows() {
        Probe p = begun(24, 2);
        ring(p, 0, 9);
        ring(p, 9, 13);
        for (int node = 0; node < 23; node++) {
            if (node != 8 && node != 21) {
                p.due(true).on(node, 1, 23);
            }
        }
        p.due(true).on(23, 0, 22);
        p.due(true).on(22, 0, 0);
        p.due(true).on(22, 0, 9);
        p.due(true).start(23);
        return p;
    }

    /** Behind each row any of the nodes from 1 on may be there or not: 2 to the (nodes - 1) sets. */
    private static Probe anySets(int nodes) {
        Probe p = begun(nodes, 2);
        p.due(true).on(0, 0, 0);
        p.due(true).on(0, 1, 0);
        p.due(true).on(0, 1, 1);
        for (int node = 1; node + 1 < nodes; node++) {
            p.due(true).on(node, 0, node + 1);
            p.due(true).on(node, 1, node + 1);
        }
        return p;
    }

    // Terms

    private static void calls() {
        sentence = "An object is used for at most 512 calls after it has been made";
        Probe p = mostStates();
        while (p.calls < CALLS - 1) {
            p.due(120).make();
        }
        p.due(119).state(119);

        Probe filled = begun(24, 40);
        for (int k = 0; k < CALLS - 2; k++) {
            filled.due(24).fill(k / 24, k % 24);
        }
        filled.due((CALLS - 2) * 24).look(2);
    }

    private static void sizes() {
        sentence = "NODES are 0 .. n - 1, n up to 24, LETTERS 0 .. l - 1, l up to 40.";
        int[][] sizes = {{1, 1}, {1, 40}, {24, 1}, {24, 40}, {23, 39}, {2, 3}};
        for (int[] size : sizes) {
            int n = size[0];
            int l = size[1];
            Probe p = begun(n, l);
            p.looks(0, n, l, 0, 0);
            p.due(true).on(n - 1, l - 1, n - 1);
            p.due(true).is(n - 1, l - 1, n - 1);
            p.due(false).on(n, l - 1, n - 1);
            p.due(false).on(n - 1, l, n - 1);
            p.due(false).on(n - 1, l - 1, n);
            p.due(1).look(2);
            p.due(true).start(n - 1);
            p.due(false).start(n);
            p.due(1).make();
            p.due(1 << (n - 1)).nodes(0);
            p.due(0).to(0, l - 1);
            p.due(NONE).to(0, l);
            p.due(l).look(6);
        }
    }

    private static void severalOrNone() {
        sentence = "there may be several, or none, by one LETTER";
        Probe p = begun(24, 2);
        for (int to = 0; to < 24; to++) {
            p.due(true).on(0, 1, to);
        }
        p.due(24).look(2);
        p.due(1).make();
        p.due(2).look(4);
        p.due((1 << 24) - 1).nodes(1);
        p.due(0).to(0, 1);
        p.due(NONE).to(0, 0);
    }

    private static void rowsFromStart() {
        sentence = "A ROW of LETTERS, from a set of NODES, leads to all NODES to which WAYS go by"
                + " its first LETTER, and so on; from START, if nothing is said.";
        Probe p = begun(6, 2);
        p.due(true).on(5, 0, 1);
        p.due(true).on(5, 0, 2);
        p.due(true).on(1, 1, 3);
        p.due(true).on(2, 1, 4);
        p.due(true).on(2, 1, 3);
        p.due(true).on(0, 0, 0);
        p.due(true).start(5);
        p.due(3).make();
        p.due(3).look(4);
        p.due(1 << 5).nodes(0);
        p.due(6).nodes(1);
        p.due(24).nodes(2);
        p.due(0).nodes(3);
    }

    private static void rowsThatGoOn() {
        sentence = "A ROW goes on if there are NODES behind it.";
        // Node 1 goes on and node 2 does not: the set of both does.
        Probe p = begun(4, 1);
        p.due(true).on(0, 0, 1);
        p.due(true).on(0, 0, 2);
        p.due(true).on(1, 0, 3);
        p.due(3).make();
        p.due(1).go(0);
        p.due(2).go(0);
        p.due(NONE).go(0);
    }

    private static void setsWithoutWays() {
        sentence = "SETS are START alone, and all sets of NODES (not empty) that a LETTER leads to"
                + " from a SET";
        for (int start = 0; start < 24; start++) {
            Probe p = begun(24, 40);
            p.due(true).start(start);
            p.due(1).make();
            p.looks(4, 1, 1, 40, 0, 0, 0);
            p.due(1 << start).nodes(0);
            p.due(0).nodes(1);
            p.due(NONE).state(1);
        }
        // Nodes that are not reached are in no set, whatever their ways.
        Probe apart = begun(24, 1);
        apart.due(24).fill(0, 22);
        apart.due(true).off(0, 0, 22);
        apart.due(1).make();
        apart.due(1).look(4);
        // What leads back to START alone is no new set.
        Probe loop = begun(24, 40);
        loop.due(24).fill(39, 0);
        loop.due(1).make();
        loop.looks(4, 1, 1, 40, 1, 0, 0);
    }

    private static void setsWithAllWays() {
        sentence = "all sets of NODES (not empty) that a LETTER leads to from a SET: all WAYS";
        int[][] sizes = {{24, 20}, {12, 40}, {2, 1}, {24, 1}};
        for (int[] size : sizes) {
            Probe p = begun(size[0], size[1]);
            fillAll(p, size[0], size[1]);
            p.due(1).make();
            p.looks(2, size[0] * size[0] * size[1], 0, 2, 1, size[1], size[1], 0, 0);
            p.due(1).nodes(0);
            p.due((1 << size[0]) - 1).nodes(1);
            p.due(0).state(1);
        }
        Probe one = begun(1, 40);
        fillAll(one, 1, 40);
        one.due(1).make();
        one.looks(2, 40, 0, 1, 1, 40, 40, 0, 0);
        one.due(0).nodes(1);
    }

    private static void setNumbers() {
        sentence = "they are numbered from 0 on: START alone; then for each SET by its number, for"
                + " each LETTER, from 0 on: what it leads to, if that has no number, has the next"
                + " one.";
        Probe p = begun(24, 40);
        p.due(true).on(23, 39, 0);
        p.due(true).on(23, 1, 5);
        p.due(true).on(23, 0, 9);
        p.due(true).on(23, 2, 9);
        p.due(true).on(9, 7, 2);
        p.due(true).on(9, 6, 23);
        p.due(true).on(5, 0, 3);
        p.due(true).start(23);
        p.due(4).make();
        int[] order = {23, 9, 5, 0, 2, 3};
        for (int set = 0; set < order.length; set++) {
            p.due(1 << order[set]).nodes(set);
        }
        p.due(0).nodes(order.length);
    }

    private static void alike() {
        sentence = "Two SETS are ALIKE if there is no ROW that goes on from one and not from the"
                + " other.";
        // 64 sets behind which each row goes on: one state.
        Probe p = anySets(7);
        p.due(1).make();
        p.looks(4, 64, 1, 2, 2, 0, 0);
        p.due(0).state(63);
        p.due(NONE).state(64);
        // Two ends are alike; so are two nodes that both lead to an end.
        Probe ends = begun(5, 2);
        ends.due(true).on(0, 0, 1);
        ends.due(true).on(0, 1, 2);
        ends.due(true).on(1, 0, 3);
        ends.due(true).on(2, 0, 4);
        ends.due(3).make();
        ends.due(5).look(4);
        ends.due(1).state(1);
        ends.due(1).state(2);
        ends.due(2).state(3);
        ends.due(2).state(4);
        // One way by the last letter of all parts them again.
        Probe last = begun(5, 40);
        last.due(true).on(0, 0, 1);
        last.due(true).on(0, 1, 2);
        last.due(true).on(2, 39, 2);
        last.due(3).make();
        last.row(1, 2, 39);
    }

    private static void statesGo() {
        sentence = "it goes by a LETTER to the STATE of what that leads to, or nowhere, if that is"
                + " empty.";
        // The sets 1 and 3 are alike, 3 comes by another way: both stand for one state.
        Probe p = begun(4, 40);
        p.due(true).on(0, 0, 1);
        p.due(true).on(1, 39, 2);
        p.due(true).on(2, 0, 3);
        p.due(true).on(2, 1, 2);
        p.due(true).on(3, 39, 2);
        p.due(3).make();
        p.due(4).look(4);
        p.due(1).state(3);
        p.due(1).to(0, 0);
        p.due(2).to(1, 39);
        p.due(1).to(2, 0);
        p.due(2).to(2, 1);
        p.due(NONE).to(0, 39);
        p.due(NONE).to(1, 0);
        p.due(NONE).to(2, 39);
    }

    private static void stateNumbers() {
        sentence = "STATES are numbered likewise: that of START alone is 0; then for each STATE by"
                + " its number, for each LETTER";
        // Set 2 is alike with START, so that state 2 is first that of set 3.
        Probe p = begun(5, 3);
        p.due(true).on(4, 0, 1);
        p.due(true).on(4, 1, 2);
        p.due(true).on(4, 2, 3);
        p.due(true).on(2, 0, 1);
        p.due(true).on(2, 1, 4);
        p.due(true).on(2, 2, 3);
        p.due(true).on(3, 2, 0);
        p.due(true).start(4);
        p.due(3).make();
        p.due(5).look(4);
        p.due(0).state(0);
        p.due(1).state(1);
        p.due(0).state(2);
        p.due(2).state(3);
        p.due(1).state(4);
        p.due(1).to(0, 0);
        p.due(0).to(0, 1);
        p.due(2).to(0, 2);
    }

    private static void shortestRow() {
        sentence = "by the shortest one";
        // By letter 0 first it takes three letters, by letter 39 first two.
        Probe p = begun(10, 40);
        p.due(true).on(0, 5, 1);
        p.due(true).on(0, 6, 2);
        p.due(true).on(1, 0, 3);
        p.due(true).on(2, 0, 4);
        p.due(true).on(3, 0, 5);
        p.due(true).on(4, 0, 6);
        p.due(true).on(5, 0, 9);
        p.due(true).on(1, 39, 7);
        p.due(true).on(2, 39, 8);
        p.due(true).on(7, 38, 9);
        p.due(7).make();
        p.row(1, 2, 39, 38);
        p.row(0, 1, 0);
    }

    private static void lesserLetter() {
        sentence = "of equally short ones by that which has the lesser LETTER where they differ"
                + " first.";
        // 1 goes on by 39 alone, 2 by 38 alone: both letters tell, the lesser one is due.
        Probe p = begun(4, 40);
        p.due(true).on(0, 0, 1);
        p.due(true).on(0, 1, 2);
        p.due(true).on(1, 39, 3);
        p.due(true).on(2, 38, 3);
        p.due(4).make();
        p.row(1, 2, 38);
        // The rows 3 9 and 4 0 both tell 1 and 2 apart: they differ first in the first letter.
        Probe two = begun(9, 10);
        two.due(true).on(0, 0, 1);
        two.due(true).on(0, 1, 2);
        two.due(true).on(1, 3, 3);
        two.due(true).on(2, 3, 4);
        two.due(true).on(1, 4, 5);
        two.due(true).on(2, 4, 6);
        two.due(true).on(3, 9, 7);
        two.due(true).on(6, 0, 7);
        two.due(6).make();
        two.row(1, 2, 3, 9);
    }

    private static Probe madeToStay() {
        Probe p = madeChain(4, 3);
        p.due(1).go(0);
        return p;
    }

    private static void chainStays(Probe p) {
        p.looks(4, 4, 4, 3, 3, 3, 1);
        for (int k = 0; k < 4; k++) {
            p.due(1 << k).nodes(k);
            p.due(k).state(k);
            p.due(k < 3 ? k + 1 : NONE).to(k, 0);
            p.due(NONE).to(k, 1);
            p.due(NONE).to(k, 2);
        }
        p.row(0, 1, 0, 0, 0);
        p.row(2, 3, 0);
        p.due(2).go(0);
        p.due(3).go(0);
        p.due(NONE).go(0);
        p.home();
        p.due(1).go(0);
    }

    private static void tableStays() {
        sentence = "A TABLE is MADE of the NODES and WAYS as they are then, and stays, whatever"
                + " they are later, until it is MADE again.";
        Probe begun = madeToStay();
        begun.due(true).begin(1, 1);
        chainStays(begun);
        begun.due(1).make();
        begun.looks(4, 1, 1, 1, 0, 0, 0);

        Probe more = madeToStay();
        more.due(true).begin(24, 40);
        chainStays(more);
        more.due(1).make();
        more.looks(4, 1, 1, 40, 0, 0, 0);

        Probe on = madeToStay();
        on.due(true).on(3, 2, 0);
        chainStays(on);
        on.due(4).make();
        on.due(0).to(3, 2);

        Probe off = madeToStay();
        off.due(true).off(1, 0, 2);
        chainStays(off);
        off.due(2).make();

        Probe filled = madeToStay();
        filled.due(4).fill(1, 3);
        chainStays(filled);
        filled.due(4).make();
        filled.due(2).to(0, 1);

        Probe turned = madeToStay();
        turned.turn();
        chainStays(turned);
        turned.due(1).make();
        turned.due(0).look(7);

        Probe started = madeToStay();
        started.due(true).start(2);
        chainStays(started);
        started.due(2).make();
        started.due(4).nodes(0);
    }

    private static void firstTable() {
        sentence = "At first it is MADE of one NODE, with no WAYS, and one LETTER.";
        Probe p = begun(24, 40);
        p.due(24).fill(0, 23);
        p.due(true).start(5);
        p.looks(4, 1, 1, 1, 0, 0, 0);
        p.due(1).nodes(0);
        p.due(0).nodes(1);
        p.due(0).state(0);
        p.due(NONE).state(1);
        p.due(NONE).to(0, 0);
        p.due(NONE).to(0, 1);
        p.due(NONE).to(1, 0);
        p.due(NONE).go(0);
        p.row(0, 0);
        p.due(NONE).apart(0, 1);
        p.due(1).make();
        p.due(1 << 5).nodes(0);
    }

    // Promises

    private static void newObject() {
        sentence = "One NODE, one LETTER, no WAYS; the TABLE is of that.";
        Probe p = new Probe();
        if (WayTable.NONE != NONE) {
            report("NONE is " + WayTable.NONE);
        }
        p.looks(0, 1, 1, 0, 0, 1, 1, 1, 0, 0, 0);
        p.due(false).is(0, 0, 0);
        p.due(false).off(0, 0, 0);
        p.due(false).on(1, 0, 0);
        p.due(false).on(0, 1, 0);
        p.due(false).on(0, 0, 1);
        p.due(false).start(1);
        p.due(NONE).fill(1, 0);
        p.due(NONE).fill(0, 1);
        p.due(true).start(0);
        p.turn();
        p.home();
        p.due(1).make();
        p.looks(0, 1, 1, 0, 0, 1, 1, 1, 0, 0, 0);
        p.due(true).on(0, 0, 0);
        p.due(NONE).go(0);
        p.due(1).make();
        p.looks(0, 1, 1, 1, 0, 1, 1, 1, 1, 0, 0);
        p.due(0).go(0);
    }

    private static void beginAnew() {
        sentence = "So many NODES and LETTERS, no WAYS, START is 0: true";
        int[][] sizes = {{1, 1}, {24, 40}, {1, 40}, {24, 1}, {24, 40}, {24, 40}, {23, 39}};
        Probe p = new Probe();
        for (int[] size : sizes) {
            int n = size[0];
            int l = size[1];
            p.due(true).begin(n, l);
            p.looks(0, n, l, 0, 0);
            p.due(false).is(0, 0, 0);
            p.due(false).is(n - 1, l - 1, n - 1);
            p.due(n).fill(0, 0);
            p.due(true).start(n - 1);
            if (l > 1) {
                p.due(n).fill(l - 1, n - 1);
            }
        }
        // Ways of nodes and letters that were gone in between are gone for good.
        p.due(true).begin(1, 1);
        p.due(true).begin(24, 40);
        p.due(0).look(2);
        p.due(false).is(22, 38, 22);
    }

    private static void beginTooMany() {
        sentence = "false if there can not be so many";
        Probe p = begun(2, 3);
        for (int many : new int[] {25, 26, 32, 40, 41, 64, 1 << 16, 1 << 30, HIGH - 1, HIGH}) {
            p.due(false).begin(many, 1);
            p.due(false).begin(many, 40);
            p.due(false).begin(many, many);
        }
        for (int many : new int[] {41, 42, 64, 120, 1 << 16, 1 << 30, HIGH - 1, HIGH}) {
            p.due(false).begin(1, many);
            p.due(false).begin(24, many);
            p.due(false).begin(25, many);
        }
        p.looks(0, 2, 3, 0, 0);
    }

    private static void beginTooFew() {
        sentence = "or nodes or letters is below 1.";
        Probe p = begun(2, 3);
        for (int few : new int[] {0, -1, -2, -24, -40, -(1 << 16), LOW + 1, LOW}) {
            p.due(false).begin(few, 1);
            p.due(false).begin(few, 40);
            p.due(false).begin(1, few);
            p.due(false).begin(24, few);
            p.due(false).begin(few, few);
            p.due(false).begin(few, HIGH);
            p.due(false).begin(HIGH, few);
        }
        p.looks(0, 2, 3, 0, 0);
    }

    private static void wayIsThereOrNot() {
        sentence = "A WAY is there, or not: true";
        Probe p = begun(24, 40);
        int[][] corners = {{0, 0, 0}, {23, 0, 0}, {0, 39, 0}, {0, 0, 23}, {23, 39, 0},
            {23, 0, 23}, {0, 39, 23}, {23, 39, 23}};
        for (int[] c : corners) {
            p.due(true).on(c[0], c[1], c[2]);
        }
        p.due(corners.length).look(2);
        for (int[] c : corners) {
            p.due(true).is(c[0], c[1], c[2]);
            p.due(true).off(c[0], c[1], c[2]);
            p.due(false).is(c[0], c[1], c[2]);
        }
        p.due(0).look(2);
    }

    private static void wayWithoutNodes() {
        sentence = "false if there are no such NODES or LETTER (way)";
        for (int[] size : new int[][] {{1, 1}, {5, 3}, {24, 40}}) {
            Probe p = begun(size[0], size[1]);
            for (int bad : beyond(size[0])) {
                p.due(false).on(bad, 0, 0);
                p.due(false).on(0, 0, bad);
                p.due(false).off(bad, 0, 0);
                p.due(false).off(0, 0, bad);
                p.due(false).on(bad, 0, bad);
            }
            for (int bad : beyond(size[1])) {
                p.due(false).on(0, bad, 0);
                p.due(false).off(0, bad, 0);
                p.due(false).on(bad, bad, bad);
            }
            p.due(0).look(2);
            p.due(true).on(0, 0, 0);
        }
    }

    private static void wayThatIsSo() {
        sentence = "or it is so.";
        Probe p = begun(24, 40);
        p.due(false).off(23, 39, 23);
        p.due(true).on(23, 39, 23);
        p.due(false).on(23, 39, 23);
        p.due(1).look(2);
        p.due(true).off(23, 39, 23);
        p.due(false).off(23, 39, 23);
        p.due(0).look(2);
        p.due(24).fill(0, 7);
        for (int from = 0; from < 24; from++) {
            p.due(false).on(from, 0, 7);
            p.due(false).off(from, 1, 7);
        }
        p.due(24).look(2);
    }

    private static void fillCounts() {
        sentence = "From all NODES WAYS go by a LETTER to a NODE: how many there were not";
        Probe p = begun(24, 40);
        p.due(24).fill(0, 0);
        p.due(24).fill(39, 23);
        p.due(0).fill(39, 23);
        p.due(true).off(0, 39, 23);
        p.due(1).fill(39, 23);
        p.due(true).off(23, 39, 23);
        p.due(true).off(5, 39, 23);
        p.due(2).fill(39, 23);
        p.due(true).on(23, 7, 0);
        p.due(23).fill(7, 0);
        for (int from = 0; from < 24; from++) {
            p.due(true).is(from, 39, 23);
            p.due(false).is(from, 39, 22);
            p.due(false).is(from, 38, 23);
        }
        p.due(72).look(2);
        Probe one = new Probe();
        one.due(1).fill(0, 0);
        one.due(0).fill(0, 0);
        // Only the nodes there are have the ways.
        Probe few = begun(3, 2);
        few.due(3).fill(1, 2);
        few.due(3).look(2);
    }

    private static void fillNone() {
        sentence = "NONE if there are none such. (fill)";
        for (int[] size : new int[][] {{1, 1}, {5, 3}, {24, 40}}) {
            Probe p = begun(size[0], size[1]);
            for (int bad : beyond(size[1])) {
                p.due(NONE).fill(bad, 0);
                p.due(NONE).fill(bad, -1);
            }
            for (int bad : beyond(size[0])) {
                p.due(NONE).fill(0, bad);
            }
            p.due(0).look(2);
        }
    }

    private static void turned() {
        sentence = "each goes from where it went to to where it came from";
        Probe none = begun(24, 40);
        none.turn();
        none.due(0).look(2);

        Probe all = begun(12, 40);
        fillAll(all, 12, 40);
        all.turn();
        all.due(12 * 12 * 40).look(2);

        Probe p = begun(24, 40);
        p.due(24).fill(0, 23);
        p.due(24).fill(39, 0);
        p.due(true).on(5, 20, 5);
        p.due(true).on(1, 20, 2);
        p.due(true).on(2, 20, 1);
        p.turn();
        for (int node = 0; node < 24; node++) {
            p.due(true).is(23, 0, node);
            p.due(node == 23).is(node, 0, 23);
            p.due(true).is(0, 39, node);
            p.due(node == 0).is(node, 39, 0);
        }
        p.due(true).is(5, 20, 5);
        p.due(true).is(1, 20, 2);
        p.due(true).is(2, 20, 1);
        p.due(51).look(2);
        p.turn();
        for (int node = 0; node < 24; node++) {
            p.due(true).is(node, 0, 23);
            p.due(node == 23).is(23, 0, node);
            p.due(true).is(node, 39, 0);
        }
        p.due(51).look(2);
    }

    private static void turnedStart() {
        sentence = "START stays.";
        for (int start : new int[] {0, 1, 22, 23}) {
            Probe p = begun(24, 1);
            p.due(true).start(start);
            p.due(24).fill(0, 0);
            p.turn();
            p.due(start).look(3);
            p.due(1).make();
            p.due(1 << start).nodes(0);
            p.due(start == 0 ? 1 : 0).look(7);
        }
    }

    private static void starts() {
        sentence = "START: true";
        Probe p = begun(24, 40);
        for (int node = 23; node >= 0; node--) {
            p.due(true).start(node);
            p.due(true).start(node);
            p.due(node).look(3);
        }
        p.due(true).begin(1, 1);
        p.due(true).start(0);
        p.due(0).look(3);
    }

    private static void startsNowhere() {
        sentence = "false if there is no such NODE.";
        for (int n : new int[] {1, 5, 24}) {
            Probe p = begun(n, 2);
            p.due(true).start(n - 1);
            for (int bad : beyond(n)) {
                p.due(false).start(bad);
                p.due(n - 1).look(3);
            }
        }
    }

    private static void makesStates() {
        sentence = "The TABLE is MADE: how many STATES";
        Probe least = new Probe();
        least.due(1).make();
        least.due(1).make();
        Probe most = mostStates();
        most.due(120).make();
        most.looks(4, 120, 120, 40, 40 + 40 + 39 + 2 * 117, 3, 0);
        most.due(120).make();
        most.due(119).state(119);
        most.due(1 << 9 | 1 << 23).nodes(119);
        most.row(0, 1, 0, 0);
        most.row(0, 2, 39);
        most.row(118, 119, 22, 0, 0);
        most.due(true).begin(1, 1);
        most.due(1).make();
        most.looks(4, 1, 1, 1, 0, 0, 0);
    }

    private static void makesMostSets() {
        sentence = "if there would be more than 120 SETS: 120 are not";
        Probe p = twoRings();
        p.due(15).make();
        p.looks(4, 120, 15, 3);
        p.due(0).nodes(120);
        p.due(NONE).state(120);
        // A way more whose sets all have a number already, and one that leads to nothing else.
        p.due(true).on(0, 2, 15);
        p.due(true).on(0, 2, 0);
        p.due(15).make();
        p.due(120).look(4);
    }

    private static void makesNoMoreSets() {
        sentence = "NONE, and it stays, if there would be more than 120 SETS.";
        Probe rings = twoRings();
        rings.due(15).make();
        rings.due(1).go(0);
        rings.due(true).on(0, 2, 22);
        rings.due(NONE).make();
        rings.looks(4, 120, 15, 3, 16, 14, 1);
        rings.due(NONE).to(0, 2);
        rings.due(2).go(0);
        rings.due(true).off(0, 2, 22);
        rings.due(15).make();
        rings.due(0).look(9);

        Probe pairs = mostStates();
        pairs.due(120).make();
        onToPair(pairs, 2, 39, 117);
        pairs.due(NONE).make();
        pairs.due(NONE).make();
        pairs.looks(4, 120, 120, 40, 40 + 40 + 39 + 2 * 117, 3, 0);
        pairs.due(true).off(2, 39, pair(117)[0]);
        pairs.due(true).off(2, 39, pair(117)[1]);
        // START alone is one of the sets: from node 3 it is the one that is too many.
        pairs.due(true).start(3);
        pairs.due(NONE).make();
        pairs.due(1).nodes(0);
        pairs.due(3).look(3);
        pairs.due(true).start(0);
        pairs.due(120).make();
    }

    private static void makesFarMoreSets() {
        sentence = "if there would be more than 120 SETS: far more";
        // 2 to the 7th and more sets, up to 2 to the 23rd.
        for (int nodes = 8; nodes <= 24; nodes++) {
            Probe p = anySets(nodes);
            p.due(NONE).make();
            p.looks(4, 1, 1, 1, 0, 0, 0);
            p.due(1).nodes(0);
            p.due(true).start(nodes - 1);
            p.due(1).make();
            p.due(1 << (nodes - 1)).nodes(0);
        }
    }

    private static void homeAgain() {
        sentence = "The WALK begins anew: it is at STATE 0 of the TABLE.";
        Probe p = madeChain(24, 1);
        p.home();
        p.due(0).look(9);
        for (int state = 1; state < 24; state++) {
            p.due(state).go(0);
        }
        p.due(true).begin(1, 1);
        p.home();
        p.due(0).look(9);
        p.due(24).look(5);
        p.due(1).look(0);
        p.due(1).go(0);
        Probe fresh = new Probe();
        fresh.home();
        fresh.looks(0, 1, 1, 0, 0, 1, 1, 1, 0, 0, 0);
    }

    private static void homeBehindMake() {
        sentence = "(So it is behind make().)";
        Probe p = madeChain(24, 1);
        p.due(1).go(0);
        p.due(24).make();
        p.due(0).look(9);
        p.due(1).go(0);
        p.due(2).go(0);
        p.due(true).start(23);
        p.due(1).make();
        p.due(0).look(9);
        p.due(NONE).go(0);
        p.due(true).start(0);
        p.due(24).make();
        p.due(0).look(9);
    }

    private static void goes() {
        sentence = "The WALK goes by a LETTER: its STATE then";
        Probe p = mostStates();
        p.due(120).make();
        p.due(2).go(1);
        p.due(119).go(38);
        p.due(119).look(9);
        p.due(0).go(9);
        p.due(1).go(0);
        p.due(80).go(39);
        p.due(80).look(9);
        Probe loop = new Probe();
        loop.due(1).fill(0, 0);
        loop.due(1).make();
        loop.due(0).go(0);
        loop.due(0).go(0);
    }

    private static void goesNowhere() {
        sentence = "NONE if it goes nowhere (go)";
        Probe p = madeChain(24, 40);
        for (int letter = 1; letter < 40; letter++) {
            p.due(NONE).go(letter);
        }
        p.due(0).look(9);
        for (int state = 1; state < 24; state++) {
            p.due(state).go(0);
        }
        for (int letter = 0; letter < 40; letter++) {
            p.due(NONE).go(letter);
            p.due(23).look(9);
        }
        p.due(NONE).to(23, 0);
    }

    private static void goesWithoutLetter() {
        sentence = "or there is no such LETTER in the TABLE.";
        Probe p = madeChain(3, 2);
        p.due(1).go(0);
        for (int bad : beyond(2)) {
            p.due(NONE).go(bad);
            p.due(1).look(9);
        }
        // Letters of the nodes are not those of the table.
        p.due(true).begin(24, 40);
        for (int letter = 0; letter < 40; letter++) {
            p.due(24).fill(letter, 0);
        }
        p.due(NONE).go(1);
        p.due(NONE).go(2);
        p.due(NONE).go(39);
        p.due(1).look(9);
        p.due(2).go(0);
        p.due(1).make();
        p.due(0).go(39);
        p.due(NONE).go(40);
        p.due(true).begin(1, 1);
        p.due(0).go(39);
        p.due(1).make();
        p.due(NONE).go(39);
    }

    private static void toSomewhere() {
        sentence = "Where a STATE goes by a LETTER";
        Probe p = mostStates();
        p.due(120).make();
        for (int letter = 0; letter < 40; letter++) {
            p.due(letter + 1).to(0, letter);
            p.due(letter + 41).to(1, letter);
            p.due(letter < 39 ? letter + 81 : NONE).to(2, letter);
            p.due(letter == 9 ? 0 : letter == 22 ? 1 : NONE).to(119, letter);
        }
        p.due(0).look(9);
    }

    private static void toNowhere() {
        sentence = "NONE if nowhere, or there is none such. (to)";
        Probe p = madeChain(4, 2);
        for (int bad : beyond(4)) {
            p.due(NONE).to(bad, 0);
        }
        for (int bad : beyond(2)) {
            p.due(NONE).to(0, bad);
            p.due(NONE).to(bad < 0 ? bad : HIGH, bad);
        }
        p.due(NONE).to(3, 0);
        p.due(NONE).to(0, 1);
        p.due(3).to(2, 0);
        p.due(true).start(3);
        p.due(1).make();
        p.due(NONE).to(1, 0);
        p.due(NONE).to(2, 0);
        // Sets that are there, but no states of their own.
        Probe alike = begun(3, 1);
        alike.due(3).fill(0, 0);
        alike.due(3).fill(0, 1);
        alike.due(1).make();
        alike.due(2).look(4);
        alike.due(0).to(0, 0);
        alike.due(NONE).to(1, 0);
    }

    private static void nodesOfSets() {
        sentence = "NODES of a SET, as bits";
        Probe p = begun(24, 1);
        p.due(true).start(23);
        for (int to = 0; to < 24; to++) {
            p.due(true).on(23, 0, to);
        }
        p.due(1).make();
        p.due(1 << 23).nodes(0);
        p.due((1 << 24) - 1).nodes(1);
        Probe rings = twoRings();
        rings.due(15).make();
        rings.due(1).nodes(0);
        rings.due(2).nodes(1);
        rings.due(1 | 1 << 15).nodes(2);
        rings.due(4).nodes(3);
        rings.due(2 | 1 << 16).nodes(4);
        // The last of all comes before that which would be the first pair again.
        rings.due(1 << 14 | 1 << 21).nodes(119);
    }

    private static void nodesOfNoSet() {
        sentence = "0 if there is none such.";
        Probe p = madeChain(4, 2);
        for (int bad : beyond(4)) {
            p.due(0).nodes(bad);
        }
        p.due(8).nodes(3);
        p.due(true).start(3);
        p.due(1).make();
        p.due(8).nodes(0);
        p.due(0).nodes(1);
        Probe most = twoRings();
        most.due(15).make();
        for (int bad : beyond(120)) {
            most.due(0).nodes(bad);
        }
    }

    private static void statesOfSets() {
        sentence = "Which STATE a SET is of";
        Probe rings = twoRings();
        rings.due(15).make();
        rings.due(0).state(0);
        rings.due(1).state(1);
        rings.due(0).state(2);
        rings.due(2).state(3);
        rings.due(1).state(4);
        rings.due(14).state(119);
        Probe most = mostStates();
        most.due(120).make();
        for (int set = 0; set < 120; set++) {
            most.due(set).state(set);
        }
    }

    private static void statesOfNoSet() {
        sentence = "NONE if there is none such. (state)";
        Probe p = madeChain(4, 2);
        for (int bad : beyond(4)) {
            p.due(NONE).state(bad);
        }
        p.due(3).state(3);
        p.due(true).start(3);
        p.due(1).make();
        p.due(NONE).state(1);
        Probe most = twoRings();
        most.due(15).make();
        for (int bad : beyond(120)) {
            most.due(NONE).state(bad);
        }
    }

    private static void apartLengths() {
        sentence = "How many LETTERS the ROW has by which two STATES are TOLD APART";
        Probe p = longestRows();
        p.due(119).make();
        p.due(118).apart(0, 118);
        p.due(118).apart(118, 0);
        p.due(117).apart(1, 2);
        p.due(1).apart(0, 1);
        p.due(1).apart(1, 118);
        for (int state = 3; state < 119; state++) {
            p.due(119 - state).apart(state - 1, state);
            p.due(119 - state).apart(state, 2);
        }
        for (int high = 0; high < 120; high++) {
            Probe most = mostStates();
            most.due(120).make();
            for (int low = 0; low <= high; low++) {
                most.due(mostStatesApart(low, high)).apart(low, high);
                most.due(mostStatesApart(low, high)).apart(high, low);
            }
        }
    }

    private static void apartOfTheSame() {
        sentence = "0 if they are the same one";
        Probe p = mostStates();
        p.due(120).make();
        for (int state = 0; state < 120; state++) {
            p.due(0).apart(state, state);
        }
        Probe one = new Probe();
        one.due(0).apart(0, 0);
    }

    private static void apartOfNone() {
        sentence = "NONE if there are none such. (apart)";
        for (int n : new int[] {1, 4, 24}) {
            Probe p = madeChain(n, 1);
            for (int bad : beyond(n)) {
                p.due(NONE).apart(bad, 0);
                p.due(NONE).apart(0, bad);
                p.due(NONE).apart(bad, n - 1);
                p.due(NONE).apart(bad, bad);
                p.due(NONE).apart(bad, HIGH);
                p.due(NONE).apart(LOW, bad);
            }
            // States that were there before are not there any more.
            p.due(true).start(n - 1);
            p.due(1).make();
            p.due(NONE).apart(1, 1);
            p.due(NONE).apart(0, 1);
        }
        Probe most = mostStates();
        most.due(120).make();
        for (int bad : beyond(120)) {
            most.due(NONE).apart(bad, 119);
            most.due(NONE).apart(119, bad);
            most.due(NONE).apart(bad, bad);
        }
    }

    private static void apartByLetters() {
        sentence = "LETTER i of that ROW, from 0 on";
        Probe p = longestRows();
        p.due(119).make();
        for (int i = 0; i < 118; i++) {
            p.due(i < 117 ? 0 : 1).apartBy(0, 118, i);
            p.due(i < 117 ? 0 : 1).apartBy(118, 0, i);
        }
        p.due(NONE).apartBy(0, 118, 118);
        p.due(NONE).apartBy(118, 0, 119);
        Probe q = longestRows();
        q.due(119).make();
        int[] row = new int[117];
        row[116] = 1;
        q.row(1, 2, row);
        Probe last = begun(3, 40);
        last.due(true).on(0, 39, 1);
        last.due(true).on(1, 39, 2);
        last.due(3).make();
        last.row(0, 1, 39, 39);
        last.row(1, 2, 39);
    }

    private static void apartByNone() {
        sentence = "NONE if there is none. (apartBy)";
        Probe p = madeChain(4, 1);
        for (int bad : beyond(3)) {
            p.due(NONE).apartBy(0, 1, bad);
        }
        for (int bad : beyond(4)) {
            p.due(NONE).apartBy(bad, 0, 0);
            p.due(NONE).apartBy(0, bad, 0);
            p.due(NONE).apartBy(bad, bad, 0);
            p.due(NONE).apartBy(bad, bad, -1);
            p.due(NONE).apartBy(bad, bad, bad);
        }
        for (int state = 0; state < 4; state++) {
            for (int i : new int[] {LOW, -1, 0, 1, HIGH}) {
                p.due(NONE).apartBy(state, state, i);
            }
        }
        p.due(0).apartBy(0, 1, 2);
        Probe one = new Probe();
        one.row(0, 0);
        one.due(NONE).apartBy(0, 1, 0);
        one.due(NONE).apartBy(1, 0, 0);
    }

    private static void isThere() {
        sentence = "Whether a WAY is there";
        Probe p = begun(24, 40);
        p.due(24).fill(39, 23);
        p.due(true).on(0, 0, 0);
        p.due(true).is(0, 0, 0);
        p.due(true).is(0, 39, 23);
        p.due(true).is(23, 39, 23);
        p.due(false).is(23, 39, 22);
        p.due(false).is(23, 38, 23);
        p.due(false).is(0, 0, 1);
        p.due(false).is(1, 0, 0);
        p.due(false).is(0, 1, 0);
        // It asks the nodes as they are, not the table.
        p.due(2).make();
        p.due(true).off(0, 0, 0);
        p.due(false).is(0, 0, 0);
    }

    private static void isNowhere() {
        sentence = "false if there are no such NODES or LETTER. (is)";
        for (int[] size : new int[][] {{1, 1}, {4, 3}, {12, 40}}) {
            Probe p = begun(size[0], size[1]);
            if (size[0] < 12) {
                fillAll(p, size[0], size[1]);
            } else {
                p.due(12).fill(0, 0);
                p.due(12).fill(39, 11);
            }
            for (int bad : beyond(size[0])) {
                p.due(false).is(bad, 0, 0);
                p.due(false).is(0, 0, bad);
                p.due(false).is(bad, 0, bad);
            }
            for (int bad : beyond(size[1])) {
                p.due(false).is(0, bad, 0);
            }
            p.due(true).is(0, 0, 0);
        }
        // Nodes and letters that were there before.
        Probe before = begun(24, 40);
        before.due(24).fill(39, 23);
        before.due(true).begin(23, 39);
        before.due(false).is(23, 39, 23);
        before.due(false).is(0, 39, 22);
    }

    private static void looksAtNodes() {
        sentence = "which 0: NODES, 1: LETTERS, 2: WAYS, 3: START";
        Probe p = begun(24, 21);
        fillAll(p, 24, 21);
        p.due(24 * 24 * 21).look(2);
        Probe q = begun(24, 40);
        q.due(true).start(23);
        q.looks(0, 24, 40, 0, 23);
        q.due(24).fill(39, 23);
        q.due(24).look(2);
        q.due(true).off(23, 39, 23);
        q.due(23).look(2);
        q.due(false).off(23, 39, 23);
        q.due(23).look(2);
    }

    private static void looksAtTable() {
        sentence = "of the TABLE 4: SETS, 5: STATES, 6: LETTERS, 7: ways that go somewhere (of"
                + " STATES by LETTERS)";
        Probe p = begun(24, 20);
        fillAll(p, 24, 20);
        p.looks(4, 1, 1, 1, 0);
        p.due(1).make();
        p.looks(4, 2, 1, 20, 20);
        Probe most = mostStates();
        most.due(120).make();
        most.looks(4, 120, 120, 40, 353);
        Probe rings = twoRings();
        rings.due(15).make();
        rings.looks(4, 120, 15, 3, 16);
        rings.due(true).begin(1, 1);
        rings.looks(4, 120, 15, 3, 16);
    }

    private static void looksAtLongest() {
        sentence = "8: the longest of the ROWS that tell two STATES apart (0 with one STATE)";
        Probe p = longestRows();
        p.due(119).make();
        p.looks(4, 119, 119, 2, 119 + 117, 118);
        p.due(true).begin(2, 1);
        p.due(118).look(8);
        p.due(true).on(0, 0, 1);
        p.due(2).make();
        p.due(1).look(8);
        p.due(true).on(1, 0, 1);
        p.due(1).make();
        p.due(2).look(4);
        p.due(0).look(8);
        p.due(true).begin(1, 1);
        p.due(1).make();
        p.due(0).look(8);
    }

    private static void looksAtWalk() {
        sentence = "9: the STATE of the WALK.";
        Probe p = mostStates();
        p.due(120).make();
        p.due(0).look(9);
        p.due(2).go(1);
        p.due(119).go(38);
        p.due(119).look(9);
        p.due(NONE).go(39);
        p.due(119).look(9);
        p.due(true).begin(1, 1);
        p.due(119).look(9);
        p.due(1).make();
        p.due(0).look(9);
    }

    private static void looksAtNothing() {
        sentence = "NONE for any other which.";
        Probe p = madeChain(3, 2);
        for (int bad : beyond(10)) {
            p.due(NONE).look(bad);
        }
        for (int which = 10; which < 64; which++) {
            p.due(NONE).look(which);
        }
    }

    private static void terms() {
        calls();
        sizes();
        severalOrNone();
        rowsFromStart();
        rowsThatGoOn();
        setsWithoutWays();
        setsWithAllWays();
        setNumbers();
        alike();
        statesGo();
        stateNumbers();
        shortestRow();
        lesserLetter();
        tableStays();
        firstTable();
    }

    private static void promisesOfNodes() {
        newObject();
        beginAnew();
        beginTooMany();
        beginTooFew();
        wayIsThereOrNot();
        wayWithoutNodes();
        wayThatIsSo();
        fillCounts();
        fillNone();
        turned();
        turnedStart();
        starts();
        startsNowhere();
        isThere();
        isNowhere();
    }

    private static void promisesOfTable() {
        makesStates();
        makesMostSets();
        makesNoMoreSets();
        makesFarMoreSets();
        homeAgain();
        homeBehindMake();
        goes();
        goesNowhere();
        goesWithoutLetter();
        toSomewhere();
        toNowhere();
        nodesOfSets();
        nodesOfNoSet();
        statesOfSets();
        statesOfNoSet();
        apartLengths();
        apartOfTheSame();
        apartOfNone();
        apartByLetters();
        apartByNone();
        looksAtNodes();
        looksAtTable();
        looksAtLongest();
        looksAtWalk();
        looksAtNothing();
    }

    public static void main(String[] args) {
        terms();
        promisesOfNodes();
        promisesOfTable();
        System.out.println(wrong == 0 ? "all edges hold" : wrong + " answers are not as due");
        if (wrong != 0) {
            System.exit(1);
        }
    }
}
