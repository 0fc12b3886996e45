import java.util.Arrays;

/**
 * Nodes with several ways by a letter, made to the table with the fewest states that goes along
 * with the same rows of letters; states told apart by their least rows.
 */
public final class WayTable {
    public static final int NONE = -1;

    private static final int MOST_NODES = 24;
    private static final int MOST_LETTERS = 40;
    private static final int MOST_SETS = 120;
    private static final int MOST_PAIRS = MOST_SETS * (MOST_SETS - 1) / 2;

    private final Graph graph;
    private final Table table;
    private int walk;

    public WayTable() {
        graph = new Graph();
        table = new Table();
        walk = 0;
    }

    public boolean begin(int nodes, int letters) {
        if (nodes < 1 || nodes > MOST_NODES || letters < 1 || letters > MOST_LETTERS) {
            return false;
        }
        graph.clear(nodes, letters);
        return true;
    }

    public boolean way(int from, int letter, int to, boolean on) {
        if (!graph.canHold(from, letter, to) || graph.holds(from, letter, to) == on) {
            return false;
        }
        graph.flip(from, letter, to);
        return true;
    }

    public int fill(int letter, int to) {
        if (!graph.hasLetter(letter) || !graph.hasNode(to)) {
            return NONE;
        }
        int added = 0;
        for (int from = 0; from < graph.nodeCount; from++) {
            if (!graph.holds(from, letter, to)) {
                graph.flip(from, letter, to);
                added++;
            }
        }
        return added;
    }

    public void turn() {
        for (int letter = 0; letter < graph.letterCount; letter++) {
            graph.transpose(letter);
        }
    }

    public boolean start(int node) {
        if (!graph.hasNode(node)) {
            return false;
        }
        graph.startNode = node;
        return true;
    }

    public int make() {
        if (!table.build(graph)) {
            return NONE;
        }
        walk = 0;
        return table.stateCount;
    }

    public void home() {
        walk = 0;
    }

    public int go(int letter) {
        int next = to(walk, letter);
        if (next != NONE) {
            walk = next;
        }
        return next;
    }

    public int to(int state, int letter) {
        if (!table.hasState(state) || !table.hasLetter(letter)) {
            return NONE;
        }
        return table.stateAfter(state, letter);
    }

    public int nodes(int set) {
        return table.hasSet(set) ? table.sets[set] : 0;
    }

    public int state(int set) {
        return table.hasSet(set) ? table.stateOf[set] : NONE;
    }

    public int apart(int a, int b) {
        if (!table.hasState(a) || !table.hasState(b)) {
            return NONE;
        }
        return table.rowLength(a, b);
    }

    public int apartBy(int a, int b, int i) {
        if (i < 0 || i >= apart(a, b)) {
            return NONE;
        }
        return table.rowLetter(a, b, i);
    }

    public boolean is(int from, int letter, int to) {
        return graph.canHold(from, letter, to) && graph.holds(from, letter, to);
    }

    public int look(int which) {
        switch (which) {
            case 0: return graph.nodeCount;
            case 1: return graph.letterCount;
            case 2: return graph.countWays();
            case 3: return graph.startNode;
            case 4: return table.setCount;
            case 5: return table.stateCount;
            case 6: return table.letterCount;
            case 7: return table.countGoing();
            case 8: return table.longestRow;
            case 9: return walk;
            default: return NONE;
        }
    }

    /** The nodes and ways as they are now. */
    private static final class Graph {
        private int nodeCount;
        private int letterCount;
        private int startNode;
        /** By letter and node: the nodes that ways go to, as bits. */
        private final int[] targets;

        private Graph() {
            nodeCount = 1;
            letterCount = 1;
            startNode = 0;
            targets = new int[MOST_LETTERS * MOST_NODES];
        }

        private static int place(int from, int letter) {
            return letter * MOST_NODES + from;
        }

        private void clear(int newNodes, int newLetters) {
            nodeCount = newNodes;
            letterCount = newLetters;
            startNode = 0;
            Arrays.fill(targets, 0);
        }

        private boolean hasNode(int node) {
            return node >= 0 && node < nodeCount;
        }

        private boolean hasLetter(int letter) {
            return letter >= 0 && letter < letterCount;
        }

        private boolean canHold(int from, int letter, int target) {
            return hasNode(from) && hasLetter(letter) && hasNode(target);
        }

        private boolean holds(int from, int letter, int target) {
            return (targets[place(from, letter)] >>> target & 1) != 0;
        }

        private void flip(int from, int letter, int target) {
            targets[place(from, letter)] ^= 1 << target;
        }

        private void transpose(int letter) {
            for (int high = 1; high < nodeCount; high++) {
                for (int low = 0; low < high; low++) {
                    // Only where one of the two ways is there does turning change anything.
                    if (holds(high, letter, low) != holds(low, letter, high)) {
                        flip(high, letter, low);
                        flip(low, letter, high);
                    }
                }
            }
        }

        private int countWays() {
            int count = 0;
            for (int i = 0; i < targets.length; i++) {
                count += Integer.bitCount(targets[i]);
            }
            return count;
        }

        /** The nodes that a letter leads to from a set of nodes, both as bits. */
        private int reach(int set, int letter) {
            int reached = 0;
            for (int node = 0; node < nodeCount; node++) {
                if ((set >>> node & 1) != 0) {
                    reached |= targets[place(node, letter)];
                }
            }
            return reached;
        }
    }

    /**
     * The table as it was made last. Sets that are alike have one leader, the least of them, which
     * stands for their state.
     */
    private static final class Table {
        private int letterCount;
        private int setCount;
        private int stateCount;
        private int longestRow;
        private final int[] sets;
        /** Sets not yet known to fit: the old table must stay if they turn out too many. */
        private final int[] found;
        /** By set and letter: the set that is led to, or NONE. */
        private final int[] steps;
        private final int[] leaders;
        private final int[] leadersBefore;
        private final int[] stateOf;
        private final int[] leaderOfState;
        /** By two leaders: how long the row is that tells them apart. */
        private final int[] rowLengths;

        /** The table of one node, with no ways, and one letter. */
        private Table() {
            letterCount = 1;
            setCount = 1;
            stateCount = 1;
            longestRow = 0;
            sets = new int[MOST_SETS];
            found = new int[MOST_SETS];
            steps = new int[MOST_SETS * MOST_LETTERS];
            leaders = new int[MOST_SETS];
            leadersBefore = new int[MOST_SETS];
            stateOf = new int[MOST_SETS];
            leaderOfState = new int[MOST_SETS];
            rowLengths = new int[MOST_PAIRS];
            sets[0] = 1;
            steps[0] = NONE;
        }

        private boolean hasLetter(int letter) {
            return letter >= 0 && letter < letterCount;
        }

        private boolean hasSet(int set) {
            return set >= 0 && set < setCount;
        }

        private boolean hasState(int state) {
            return state >= 0 && state < stateCount;
        }

        /** False, and nothing is changed, if there would be too many sets. */
        private boolean build(Graph graph) {
            int count = findSets(graph);
            if (count == NONE) {
                return false;
            }
            letterCount = graph.letterCount;
            setCount = count;
            System.arraycopy(found, 0, sets, 0, count);
            laySteps(graph);
            partSets();
            numberStates();
            return true;
        }

        private int findSets(Graph graph) {
            found[0] = 1 << graph.startNode;
            int count = 1;
            for (int set = 0; set < count; set++) {
                for (int letter = 0; letter < graph.letterCount; letter++) {
                    int reached = graph.reach(found[set], letter);
                    if (reached != 0 && indexOf(found, count, reached) == NONE) {
                        if (count >= MOST_SETS) {
                            return NONE;
                        }
                        found[count] = reached;
                        count++;
                    }
                }
            }
            return count;
        }

        private static int indexOf(int[] row, int count, int wanted) {
            for (int i = 0; i < count; i++) {
                if (row[i] == wanted) {
                    return i;
                }
            }
            return NONE;
        }

        // What letters lead to is worked out a second time here: a spare row of steps, needed only
        // when there are too many sets, would take more room than the work saved is worth.
        private void laySteps(Graph graph) {
            for (int set = 0; set < setCount; set++) {
                for (int letter = 0; letter < letterCount; letter++) {
                    int reached = graph.reach(sets[set], letter);
                    steps[set * MOST_LETTERS + letter] =
                            reached == 0 ? NONE : indexOf(sets, setCount, reached);
                }
            }
        }

        // All sets begin as alike; round r parts those that a row of r letters tells apart, but
        // no shorter one. Each round but the last makes a leader, so setCount bounds them.
        private void partSets() {
            Arrays.fill(leaders, 0, setCount, 0);
            longestRow = 0;
            for (int round = 1; round < setCount; round++) {
                if (!partOnce(round)) {
                    return;
                }
                longestRow = round;
            }
        }

        private boolean partOnce(int round) {
            System.arraycopy(leaders, 0, leadersBefore, 0, setCount);
            boolean parted = false;
            for (int set = 0; set < setCount; set++) {
                leaders[set] = findLeader(set);
                if (leaders[set] == set && leadersBefore[set] != set) {
                    measure(set, round);
                    parted = true;
                }
            }
            return parted;
        }

        private int findLeader(int set) {
            int before = leadersBefore[set];
            for (int other = before; other < set; other++) {
                if (leaders[other] == other && leadersBefore[other] == before
                        && goAlike(other, set)) {
                    return other;
                }
            }
            return set;
        }

        private boolean goAlike(int a, int b) {
            for (int letter = 0; letter < letterCount; letter++) {
                if (leaderAfter(leadersBefore, a, letter) != leaderAfter(leadersBefore, b, letter)) {
                    return false;
                }
            }
            return true;
        }

        private int leaderAfter(int[] leading, int set, int letter) {
            int next = steps[set * MOST_LETTERS + letter];
            return next == NONE ? NONE : leading[next];
        }

        // What is not led by the new leader's former one was told apart from both before.
        private void measure(int newLeader, int round) {
            int former = leadersBefore[newLeader];
            for (int other = 0; other < setCount; other++) {
                if (leaders[other] == other && other != newLeader) {
                    rowLengths[pair(other, newLeader)] =
                            other == former ? round : rowLengths[pair(other, former)];
                }
            }
        }

        /** The place of two sets, not the same one, in whichever order they come. */
        private static int pair(int a, int b) {
            int high = Math.max(a, b);
            return high * (high - 1) / 2 + Math.min(a, b);
        }

        // States come in the order of their leaders: what a set alike with an earlier one leads to
        // is alike with what that one led to, so that only leaders are first to lead to a state.
        private void numberStates() {
            stateCount = 0;
            for (int set = 0; set < setCount; set++) {
                if (leaders[set] == set) {
                    stateOf[set] = stateCount;
                    leaderOfState[stateCount] = set;
                    stateCount++;
                } else {
                    stateOf[set] = stateOf[leaders[set]];
                }
            }
        }

        private int stateAfter(int from, int letter) {
            int next = steps[leaderOfState[from] * MOST_LETTERS + letter];
            return next == NONE ? NONE : stateOf[next];
        }

        private int countGoing() {
            int count = 0;
            for (int from = 0; from < stateCount; from++) {
                for (int letter = 0; letter < letterCount; letter++) {
                    if (stateAfter(from, letter) != NONE) {
                        count++;
                    }
                }
            }
            return count;
        }

        private int rowLength(int a, int b) {
            return a == b ? 0 : rowLengths[pair(leaderOfState[a], leaderOfState[b])];
        }

        private int rowLetter(int a, int b, int i) {
            int one = leaderOfState[a];
            int other = leaderOfState[b];
            int rest = rowLength(a, b) - 1;
            int letter = leastLetter(one, other, rest);
            for (int k = 0; k < i && letter != NONE; k++) {
                one = leaderAfter(leaders, one, letter);
                other = leaderAfter(leaders, other, letter);
                if (one == NONE || other == NONE) {
                    return NONE;
                }
                rest--;
                letter = leastLetter(one, other, rest);
            }
            return letter;
        }

        /** The least letter behind which a row of so many letters more tells two leaders apart. */
        private int leastLetter(int one, int other, int rest) {
            for (int letter = 0; letter < letterCount; letter++) {
                int nextOne = leaderAfter(leaders, one, letter);
                int nextOther = leaderAfter(leaders, other, letter);
                if (nextOne != nextOther && lengthBehind(nextOne, nextOther) == rest) {
                    return letter;
                }
            }
            return NONE;
        }

        // Where only one of two goes on, the row is at its end.
        private int lengthBehind(int nextOne, int nextOther) {
            if (nextOne == NONE || nextOther == NONE) {
                return 0;
            }
            return rowLengths[pair(nextOne, nextOther)];
        }
    }
}
