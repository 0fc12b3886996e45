/**
 * One test for each promise of the document: ordinary inputs, edges and wrong inputs; and one for
 * the lines that README.md shows.
 */
public final class WayTablePromises {
    private static final int LOW = Integer.MIN_VALUE;
    private static final int HIGH = Integer.MAX_VALUE;
    private static final int[] NOWHERE = {LOW, -2, -1, HIGH};

    private static int wrong = 0;
    private static String promise = "";

    private static void due(String call, int got, int want) {
        if (got != want) {
            wrong++;
            System.out.println(promise + ": " + call + " answered " + got + ", due is " + want);
        }
    }

    private static void due(String call, boolean got, boolean want) {
        due(call, got ? 1 : 0, want ? 1 : 0);
    }

    private static void dueLooks(WayTable x, int... want) {
        for (int which = 0; which < want.length; which++) {
            due("look(" + which + ")", x.look(which), want[which]);
        }
    }

    private static void dueRow(WayTable x, int a, int b, int... want) {
        due("apart(" + a + ", " + b + ")", x.apart(a, b), want.length);
        due("apart(" + b + ", " + a + ")", x.apart(b, a), want.length);
        for (int i = 0; i < want.length; i++) {
            due("apartBy(" + a + ", " + b + ", " + i + ")", x.apartBy(a, b, i), want[i]);
            due("apartBy(" + b + ", " + a + ", " + i + ")", x.apartBy(b, a, i), want[i]);
        }
        due("apartBy behind the row", x.apartBy(a, b, want.length), WayTable.NONE);
        due("apartBy far behind the row", x.apartBy(a, b, HIGH), WayTable.NONE);
        due("apartBy before the row", x.apartBy(a, b, -1), WayTable.NONE);
        due("apartBy far before the row", x.apartBy(a, b, LOW), WayTable.NONE);
    }

    private static WayTable begun(int nodes, int letters) {
        WayTable x = new WayTable();
        due("begin(" + nodes + ", " + letters + ")", x.begin(nodes, letters), true);
        return x;
    }

    private static void on(WayTable x, int from, int letter, int to) {
        due("way(" + from + ", " + letter + ", " + to + ", true)",
                x.way(from, letter, to, true), true);
    }

    /** Nodes in a row, by letter 0, the last of them without a way. */
    private static WayTable chain(int nodes, int letters) {
        WayTable x = begun(nodes, letters);
        for (int node = 0; node + 1 < nodes; node++) {
            on(x, node, 0, node + 1);
        }
        return x;
    }

    private static void ring(WayTable x, int first, int size) {
        for (int k = 0; k < size; k++) {
            on(x, first + k, 0, first + (k + 1) % size);
        }
    }

    /** Rings of 15 and 7 nodes: 15 sets of one node, and 105 of two, behind letter 1. */
    private static WayTable withMostSets() {
        WayTable x = begun(23, 3);
        ring(x, 0, 15);
        ring(x, 15, 7);
        on(x, 0, 1, 0);
        on(x, 0, 1, 15);
        return x;
    }

    /** Rings of 15 and 7 nodes that are both without letter 1 in one of 105 places alone. */
    private static WayTable withLongRows() {
        WayTable x = begun(24, 2);
        ring(x, 0, 15);
        ring(x, 15, 7);
        for (int node = 0; node < 22; node++) {
            if (node != 14 && node != 21) {
                on(x, node, 1, 22);
            }
        }
        on(x, 23, 0, 0);
        on(x, 23, 0, 15);
        due("start(23)", x.start(23), true);
        return x;
    }

    private static void newObject() {
        promise = "1 (a new object)";
        WayTable x = new WayTable();
        due("NONE", WayTable.NONE, -1);
        dueLooks(x, 1, 1, 0, 0, 1, 1, 1, 0, 0, 0);
        due("nodes(0)", x.nodes(0), 1);
        due("nodes(1)", x.nodes(1), 0);
        due("state(0)", x.state(0), 0);
        due("state(1)", x.state(1), -1);
        due("to(0, 0)", x.to(0, 0), -1);
        due("go(0)", x.go(0), -1);
        due("apart(0, 0)", x.apart(0, 0), 0);
        due("is(0, 0, 0)", x.is(0, 0, 0), false);
        on(x, 0, 0, 0);
        due("make()", x.make(), 1);
        due("to(0, 0)", x.to(0, 0), 0);
        due("look(2) of another object", new WayTable().look(2), 0);
    }

    private static void beginPromise() {
        promise = "2 (begin)";
        WayTable x = chain(5, 3);
        due("start(4)", x.start(4), true);
        int[][] refused = {{0, 1}, {1, 0}, {25, 1}, {1, 41}, {25, 41}, {-1, 3}, {3, -1},
            {LOW, 1}, {HIGH, 1}, {1, LOW}, {1, HIGH}, {0, 0}};
        for (int[] pair : refused) {
            due("begin(" + pair[0] + ", " + pair[1] + ")", x.begin(pair[0], pair[1]), false);
        }
        dueLooks(x, 5, 3, 4, 4);
        due("begin(24, 40)", x.begin(24, 40), true);
        dueLooks(x, 24, 40, 0, 0);
        on(x, 23, 39, 23);
        due("begin(1, 1)", x.begin(1, 1), true);
        dueLooks(x, 1, 1, 0, 0);
        due("begin(24, 40)", x.begin(24, 40), true);
        due("is(23, 39, 23)", x.is(23, 39, 23), false);
        on(x, 3, 2, 1);
        due("start(3)", x.start(3), true);
        due("begin of the same size", x.begin(24, 40), true);
        dueLooks(x, 24, 40, 0, 0);
    }

    private static void wayPromise() {
        promise = "3 (way)";
        WayTable x = begun(24, 40);
        due("way off that is off", x.way(1, 2, 3, false), false);
        on(x, 1, 2, 3);
        due("way on that is on", x.way(1, 2, 3, true), false);
        due("is(1, 2, 3)", x.is(1, 2, 3), true);
        due("is(3, 2, 1)", x.is(3, 2, 1), false);
        on(x, 1, 2, 4);
        on(x, 23, 39, 23);
        on(x, 0, 0, 0);
        due("look(2)", x.look(2), 4);
        due("way off", x.way(1, 2, 3, false), true);
        due("way off again", x.way(1, 2, 3, false), false);
        due("is(1, 2, 3)", x.is(1, 2, 3), false);
        due("is(1, 2, 4)", x.is(1, 2, 4), true);
        for (int bad : new int[] {LOW, -1, 24, 32, 40, HIGH}) {
            due("way from " + bad, x.way(bad, 0, 0, true), false);
            due("way to " + bad, x.way(0, 0, bad, true), false);
            due("way off from " + bad, x.way(bad, 0, 0, false), false);
            due("way off to " + bad, x.way(0, 0, bad, false), false);
        }
        for (int bad : new int[] {LOW, -1, 40, HIGH}) {
            due("way by " + bad, x.way(0, bad, 0, true), false);
            due("way off by " + bad, x.way(0, bad, 0, false), false);
        }
        due("look(2)", x.look(2), 3);
        due("begin(2, 2)", x.begin(2, 2), true);
        due("way(2, 0, 0, true)", x.way(2, 0, 0, true), false);
        due("way(0, 2, 0, true)", x.way(0, 2, 0, true), false);
        due("way(0, 0, 2, true)", x.way(0, 0, 2, true), false);
        due("look(2)", x.look(2), 0);
    }

    private static void fillPromise() {
        promise = "4 (fill)";
        WayTable x = begun(4, 2);
        on(x, 1, 1, 2);
        on(x, 0, 1, 3);
        due("fill(1, 2)", x.fill(1, 2), 3);
        due("fill(1, 2)", x.fill(1, 2), 0);
        for (int from = 0; from < 4; from++) {
            due("is(" + from + ", 1, 2)", x.is(from, 1, 2), true);
            due("is(" + from + ", 0, 2)", x.is(from, 0, 2), false);
        }
        due("is(0, 1, 3)", x.is(0, 1, 3), true);
        due("look(2)", x.look(2), 5);
        for (int bad : NOWHERE) {
            due("fill(" + bad + ", 0)", x.fill(bad, 0), -1);
            due("fill(0, " + bad + ")", x.fill(0, bad), -1);
        }
        due("fill(2, 0)", x.fill(2, 0), -1);
        due("fill(0, 4)", x.fill(0, 4), -1);
        due("look(2)", x.look(2), 5);
        WayTable most = begun(24, 40);
        due("fill(39, 23)", most.fill(39, 23), 24);
        due("look(2)", most.look(2), 24);
    }

    private static void turnPromise() {
        promise = "5 (turn)";
        WayTable x = begun(4, 2);
        on(x, 0, 0, 1);
        on(x, 1, 1, 0);
        on(x, 2, 0, 3);
        on(x, 3, 0, 2);
        on(x, 1, 0, 1);
        on(x, 0, 0, 3);
        due("start(2)", x.start(2), true);
        x.turn();
        due("is(1, 0, 0)", x.is(1, 0, 0), true);
        due("is(0, 0, 1)", x.is(0, 0, 1), false);
        due("is(0, 1, 1)", x.is(0, 1, 1), true);
        due("is(1, 1, 0)", x.is(1, 1, 0), false);
        due("is(2, 0, 3)", x.is(2, 0, 3), true);
        due("is(3, 0, 2)", x.is(3, 0, 2), true);
        due("is(1, 0, 1)", x.is(1, 0, 1), true);
        due("is(3, 0, 0)", x.is(3, 0, 0), true);
        dueLooks(x, 4, 2, 6, 2, 1, 1, 1);
        WayTable most = begun(24, 40);
        due("fill(39, 23)", most.fill(39, 23), 24);
        most.turn();
        for (int node = 0; node < 24; node++) {
            due("is(23, 39, " + node + ")", most.is(23, 39, node), true);
        }
        due("look(2)", most.look(2), 24);
    }

    private static void startPromise() {
        promise = "6 (start)";
        WayTable x = chain(3, 1);
        due("start(2)", x.start(2), true);
        due("start(2) again", x.start(2), true);
        due("look(3)", x.look(3), 2);
        for (int bad : NOWHERE) {
            due("start(" + bad + ")", x.start(bad), false);
        }
        due("start(3)", x.start(3), false);
        due("look(3)", x.look(3), 2);
        due("nodes(0) of the old table", x.nodes(0), 1);
        due("make()", x.make(), 1);
        due("nodes(0)", x.nodes(0), 4);
        due("start(0)", x.start(0), true);
        due("make()", x.make(), 3);
    }

    private static void makePromise() {
        promise = "7 (make)";
        WayTable x = withMostSets();
        int states = x.make();
        due("look(4) of most sets", x.look(4), 120);
        due("look(5)", x.look(5), states);
        due("go(0)", x.go(0), x.to(0, 0));
        int at = x.look(9);
        due("the walk has left 0", at != 0, true);
        on(x, 0, 2, 22);
        due("make() of a set too many", x.make(), -1);
        due("look(4)", x.look(4), 120);
        due("look(5)", x.look(5), states);
        due("the walk behind make() that failed", x.look(9), at);
        due("to(0, 2) of the table that stays", x.to(0, 2), -1);
        due("nodes(119)", x.nodes(119) != 0, true);
        due("way(0, 2, 22, false)", x.way(0, 2, 22, false), true);
        due("make()", x.make(), states);
        due("the walk behind make()", x.look(9), 0);

        WayTable kept = chain(4, 2);
        due("make()", kept.make(), 4);
        due("begin(2, 1)", kept.begin(2, 1), true);
        dueLooks(kept, 2, 1, 0, 0, 4, 4, 2, 3, 3, 0);
        due("to(2, 0)", kept.to(2, 0), 3);
        on(kept, 0, 0, 0);
        due("make()", kept.make(), 1);
        dueLooks(kept, 2, 1, 1, 0, 1, 1, 1, 1, 0, 0);
    }

    private static void homePromise() {
        promise = "8 (home)";
        WayTable x = chain(4, 1);
        due("make()", x.make(), 4);
        due("go(0)", x.go(0), 1);
        due("go(0)", x.go(0), 2);
        x.home();
        due("look(9)", x.look(9), 0);
        due("go(0)", x.go(0), 1);
        due("make()", x.make(), 4);
        due("look(9) behind make()", x.look(9), 0);
        WayTable fresh = new WayTable();
        fresh.home();
        due("look(9)", fresh.look(9), 0);
    }

    private static void goPromise() {
        promise = "9 (go)";
        WayTable x = chain(3, 2);
        due("make()", x.make(), 3);
        due("go(1)", x.go(1), -1);
        due("look(9)", x.look(9), 0);
        due("go(0)", x.go(0), 1);
        for (int bad : NOWHERE) {
            due("go(" + bad + ")", x.go(bad), -1);
        }
        due("go(2)", x.go(2), -1);
        due("go(40)", x.go(40), -1);
        due("look(9)", x.look(9), 1);
        due("begin(1, 1)", x.begin(1, 1), true);
        due("look(9) behind begin", x.look(9), 1);
        due("go(0)", x.go(0), 2);
        due("go(0) at the end", x.go(0), -1);
        due("look(9)", x.look(9), 2);
        WayTable few = begun(1, 1);
        due("make()", few.make(), 1);
        due("begin(1, 40)", few.begin(1, 40), true);
        due("fill(39, 0)", few.fill(39, 0), 1);
        due("go(39) of nodes that are not made", few.go(39), -1);
        due("make()", few.make(), 1);
        due("go(39)", few.go(39), 0);
    }

    private static void toPromise() {
        promise = "10 (to)";
        WayTable x = begun(4, 2);
        on(x, 0, 1, 3);
        on(x, 3, 0, 0);
        on(x, 3, 1, 2);
        due("make()", x.make(), 3);
        due("to(0, 0)", x.to(0, 0), -1);
        due("to(0, 1)", x.to(0, 1), 1);
        due("to(1, 0)", x.to(1, 0), 0);
        due("to(1, 1)", x.to(1, 1), 2);
        due("to(2, 0)", x.to(2, 0), -1);
        for (int bad : NOWHERE) {
            due("to(" + bad + ", 1)", x.to(bad, 1), -1);
            due("to(0, " + bad + ")", x.to(0, bad), -1);
        }
        due("to(3, 0)", x.to(3, 0), -1);
        due("to(120, 0)", x.to(120, 0), -1);
        due("to(0, 2)", x.to(0, 2), -1);
        due("to(0, 41)", x.to(0, 41), -1);
        due("look(9)", x.look(9), 0);
    }

    private static void nodesPromise() {
        promise = "11 (nodes)";
        WayTable x = begun(24, 2);
        on(x, 0, 1, 5);
        on(x, 0, 1, 23);
        on(x, 0, 0, 7);
        on(x, 5, 0, 1);
        on(x, 23, 0, 2);
        on(x, 7, 0, 7);
        due("make()", x.make() > 0, true);
        due("look(4)", x.look(4), 4);
        due("nodes(0)", x.nodes(0), 1);
        due("nodes(1)", x.nodes(1), 1 << 7);
        due("nodes(2)", x.nodes(2), 1 << 5 | 1 << 23);
        due("nodes(3)", x.nodes(3), 6);
        due("nodes(4)", x.nodes(4), 0);
        due("nodes(120)", x.nodes(120), 0);
        for (int bad : NOWHERE) {
            due("nodes(" + bad + ")", x.nodes(bad), 0);
        }
        due("start(3)", x.start(3), true);
        due("make()", x.make(), 1);
        due("nodes(0)", x.nodes(0), 8);
        due("nodes(1) of the smaller table", x.nodes(1), 0);
    }

    private static void statePromise() {
        promise = "12 (state)";
        // Sets are found in the order 0, 1, 2, 3, and 2 is alike with 1, 3 with 0.
        WayTable x = begun(4, 2);
        on(x, 0, 0, 1);
        on(x, 0, 1, 2);
        on(x, 1, 1, 3);
        on(x, 2, 1, 3);
        on(x, 3, 0, 1);
        on(x, 3, 1, 1);
        due("make()", x.make(), 2);
        due("look(4)", x.look(4), 4);
        due("state(0)", x.state(0), 0);
        due("state(1)", x.state(1), 1);
        due("state(2)", x.state(2), 1);
        due("state(3)", x.state(3), 0);
        due("state(4)", x.state(4), -1);
        due("state(120)", x.state(120), -1);
        for (int bad : NOWHERE) {
            due("state(" + bad + ")", x.state(bad), -1);
        }
    }

    private static void apartPromise() {
        promise = "13 (apart)";
        WayTable x = chain(24, 1);
        due("make()", x.make(), 24);
        due("apart(0, 1)", x.apart(0, 1), 23);
        due("apart(1, 0)", x.apart(1, 0), 23);
        due("apart(22, 23)", x.apart(22, 23), 1);
        due("apart(3, 20)", x.apart(3, 20), 4);
        due("apart(23, 23)", x.apart(23, 23), 0);
        due("apart(24, 24)", x.apart(24, 24), -1);
        due("apart(0, 24)", x.apart(0, 24), -1);
        due("apart(24, 0)", x.apart(24, 0), -1);
        for (int bad : NOWHERE) {
            due("apart(" + bad + ", 0)", x.apart(bad, 0), -1);
            due("apart(0, " + bad + ")", x.apart(0, bad), -1);
            due("apart(" + bad + ", " + bad + ")", x.apart(bad, bad), -1);
        }

        WayTable rings = withLongRows();
        due("make() of rings", rings.make(), 106);
        due("look(4)", rings.look(4), 107);
        due("look(8)", rings.look(8), 104);
        due("apart(0, 1)", rings.apart(0, 1), 1);
        due("state of the last of the ring", rings.state(106), 0);
    }

    private static void apartByPromise() {
        promise = "14 (apartBy)";
        WayTable x = begun(6, 3);
        on(x, 0, 1, 1);
        on(x, 0, 2, 2);
        on(x, 1, 1, 3);
        on(x, 1, 2, 4);
        on(x, 2, 1, 4);
        on(x, 2, 2, 3);
        on(x, 3, 2, 5);
        on(x, 4, 1, 5);
        on(x, 5, 0, 5);
        due("make()", x.make(), 6);
        dueRow(x, x.state(1), x.state(2), 1, 1);
        dueRow(x, x.state(3), x.state(4), 1);
        dueRow(x, x.state(0), x.state(5), 0);
        dueRow(x, 0, 0);
        for (int bad : NOWHERE) {
            due("apartBy(" + bad + ", 0, 0)", x.apartBy(bad, 0, 0), -1);
            due("apartBy(0, " + bad + ", 0)", x.apartBy(0, bad, 0), -1);
            due("apartBy(" + bad + ", " + bad + ", 0)", x.apartBy(bad, bad, 0), -1);
        }
        due("apartBy(0, 6, 0)", x.apartBy(0, 6, 0), -1);
        due("apartBy(6, 0, 0)", x.apartBy(6, 0, 0), -1);
        due("apartBy(0, 6, -1)", x.apartBy(0, 6, -1), -1);

        shortBeforeLeast();

        WayTable rings = withLongRows();
        due("make() of rings", rings.make(), 106);
        int[] row = new int[104];
        row[103] = 1;
        dueRow(rings, rings.state(1), rings.state(2), row);
    }

    /** Letter 0 leads to a row of three letters, letter 1 to one of two, which is due. */
    private static void shortBeforeLeast() {
        WayTable x = begun(9, 4);
        on(x, 0, 2, 1);
        on(x, 0, 3, 2);
        on(x, 1, 0, 3);
        on(x, 2, 0, 4);
        on(x, 1, 1, 5);
        on(x, 2, 1, 6);
        on(x, 3, 0, 7);
        on(x, 4, 0, 8);
        on(x, 7, 3, 8);
        on(x, 5, 2, 8);
        due("make()", x.make() > 0, true);
        dueRow(x, x.state(1), x.state(2), 1, 2);
    }

    private static void isPromise() {
        promise = "15 (is)";
        WayTable x = begun(3, 2);
        on(x, 1, 1, 2);
        due("is(1, 1, 2)", x.is(1, 1, 2), true);
        due("is(2, 1, 1)", x.is(2, 1, 1), false);
        due("is(1, 0, 2)", x.is(1, 0, 2), false);
        due("is(1, 1, 34)", x.is(1, 1, 34), false);
        due("is(25, 0, 2)", x.is(25, 0, 2), false);
        for (int bad : NOWHERE) {
            due("is(" + bad + ", 1, 2)", x.is(bad, 1, 2), false);
            due("is(1, " + bad + ", 2)", x.is(1, bad, 2), false);
            due("is(1, 1, " + bad + ")", x.is(1, 1, bad), false);
        }
        due("is(3, 0, 0)", x.is(3, 0, 0), false);
        due("is(0, 2, 0)", x.is(0, 2, 0), false);
        due("is(0, 0, 3)", x.is(0, 0, 3), false);
        due("make()", x.make(), 1);
        due("begin(3, 2)", x.begin(3, 2), true);
        due("is(1, 1, 2) behind begin", x.is(1, 1, 2), false);
    }

    private static void lookPromise() {
        promise = "16 (look)";
        WayTable x = begun(5, 3);
        on(x, 1, 0, 2);
        on(x, 1, 1, 3);
        on(x, 2, 0, 1);
        on(x, 3, 0, 1);
        on(x, 3, 0, 4);
        on(x, 4, 2, 4);
        due("start(1)", x.start(1), true);
        due("make()", x.make(), 5);
        due("go(1)", x.go(1), 2);
        // States: {1}, {2}, {3}, {1 4}, {4}, of which the last comes behind {1 4} by letter 2.
        dueLooks(x, 5, 3, 6, 1, 5, 5, 3, 8, 2, 2);
        due("begin(2, 7)", x.begin(2, 7), true);
        dueLooks(x, 2, 7, 0, 0, 5, 5, 3, 8, 2, 2);
        for (int bad : NOWHERE) {
            due("look(" + bad + ")", x.look(bad), -1);
        }
        due("look(10)", x.look(10), -1);
    }

    private static void readme() {
        promise = "README.md";
        WayTable x = begun(3, 2);
        on(x, 0, 0, 1);
        on(x, 0, 0, 2);
        on(x, 1, 1, 0);
        due("make()", x.make(), 2);
        due("to(0, 0)", x.to(0, 0), 1);
        due("nodes(1)", x.nodes(1), 6);
        due("apart(0, 1)", x.apart(0, 1), 1);
        due("apartBy(0, 1, 0)", x.apartBy(0, 1, 0), 0);
        due("go(0)", x.go(0), 1);
        due("go(0) again", x.go(0), WayTable.NONE);
        due("look(9)", x.look(9), 1);
    }

    public static void main(String[] args) {
        newObject();
        beginPromise();
        wayPromise();
        fillPromise();
        turnPromise();
        startPromise();
        makePromise();
        homePromise();
        goPromise();
        toPromise();
        nodesPromise();
        statePromise();
        apartPromise();
        apartByPromise();
        isPromise();
        lookPromise();
        readme();
        System.out.println(wrong == 0 ? "all promises hold" : wrong + " answers are not as due");
        if (wrong != 0) {
            System.exit(1);
        }
    }
}
