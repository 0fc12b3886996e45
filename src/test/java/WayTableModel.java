import java.util.ArrayDeque;
import java.util.ArrayList;
import java.util.Arrays;
import java.util.Collections;
import java.util.HashMap;
import java.util.HashSet;
import java.util.List;
import java.util.Map;
import java.util.Random;
import java.util.Set;
import java.util.TreeSet;

/**
 * Runs of calls out of fixed seeds, each answer compared with that of a model that follows the
 * document's terms word by word and shares no way of working with the class.
 */
public final class WayTableModel {
    private static final int CALLS = 512;
    private static final int RUNS = 1500;
    private static final int RING_RUNS = 150;
    private static final int TOLD = 20;

    private static int wrong = 0;

    record Way(int from, int letter, int to) { }

    record Couple(int a, int b) { }

    /** A couple that a letter leads to from another one, or that a search begins with. */
    record Reached(Couple couple, int letter, Reached before) {
        List<Integer> rowWith(int last) {
            List<Integer> row = new ArrayList<>(List.of(last));
            for (Reached at = this; at.before != null; at = at.before) {
                row.add(at.letter);
            }
            Collections.reverse(row);
            return row;
        }
    }

    /** A table, as it was made. */
    static final class Made {
        final int letters;
        final List<Set<Integer>> sets = new ArrayList<>();
        final List<int[]> steps = new ArrayList<>();
        final List<Integer> firstSets = new ArrayList<>();
        int[] stateOf;
        private final Map<Couple, List<Integer>> rows = new HashMap<>();

        Made(int letters) {
            this.letters = letters;
        }

        static Made of(Set<Way> ways, int letters, int start) {
            Made made = new Made(letters);
            made.sets.add(Set.of(start));
            for (int set = 0; set < made.sets.size(); set++) {
                int[] step = new int[letters];
                for (int letter = 0; letter < letters; letter++) {
                    Set<Integer> reached = lead(ways, made.sets.get(set), letter);
                    if (!reached.isEmpty() && !made.sets.contains(reached)) {
                        made.sets.add(reached);
                    }
                    step[letter] = made.sets.indexOf(reached);
                }
                made.steps.add(step);
                if (made.sets.size() > 120) {
                    return null;
                }
            }
            made.number();
            return made;
        }

        private static Set<Integer> lead(Set<Way> ways, Set<Integer> set, int letter) {
            Set<Integer> reached = new TreeSet<>();
            for (Way way : ways) {
                if (way.letter() == letter && set.contains(way.from())) {
                    reached.add(way.to());
                }
            }
            return reached;
        }

        private void number() {
            stateOf = new int[sets.size()];
            Arrays.fill(stateOf, -1);
            giveNumber(0);
            for (int state = 0; state < firstSets.size(); state++) {
                for (int next : steps.get(firstSets.get(state))) {
                    if (next >= 0 && stateOf[next] < 0) {
                        giveNumber(next);
                    }
                }
            }
        }

        private void giveNumber(int set) {
            for (int other = 0; other < sets.size(); other++) {
                if (row(set, other) == null) {
                    stateOf[other] = firstSets.size();
                }
            }
            firstSets.add(set);
        }

        /** The first row, of short ones first, then of lesser letters, that one goes on by alone. */
        private List<Integer> row(int setA, int setB) {
            Couple begin = new Couple(setA, setB);
            if (rows.containsKey(begin)) {
                return rows.get(begin);
            }
            List<Integer> found = search(begin);
            rows.put(begin, found);
            return found;
        }

        private List<Integer> search(Couple begin) {
            Set<Couple> seen = new HashSet<>();
            ArrayDeque<Reached> queue = new ArrayDeque<>();
            queue.add(new Reached(begin, -1, null));
            seen.add(begin);
            while (!queue.isEmpty()) {
                Reached at = queue.remove();
                for (int letter = 0; letter < letters; letter++) {
                    int a = steps.get(at.couple().a())[letter];
                    int b = steps.get(at.couple().b())[letter];
                    if (a < 0 && b < 0) {
                        continue;
                    }
                    if (a < 0 || b < 0) {
                        return at.rowWith(letter);
                    }
                    Couple next = new Couple(a, b);
                    if (seen.add(next)) {
                        queue.add(new Reached(next, letter, at));
                    }
                }
            }
            return null;
        }

        int states() {
            return firstSets.size();
        }

        int to(int state, int letter) {
            if (state < 0 || state >= states() || letter < 0 || letter >= letters) {
                return -1;
            }
            int next = steps.get(firstSets.get(state))[letter];
            return next < 0 ? -1 : stateOf[next];
        }

        List<Integer> told(int a, int b) {
            if (a < 0 || a >= states() || b < 0 || b >= states()) {
                return null;
            }
            return a == b ? List.of() : row(firstSets.get(a), firstSets.get(b));
        }

        int going() {
            int count = 0;
            for (int state = 0; state < states(); state++) {
                for (int letter = 0; letter < letters; letter++) {
                    count += to(state, letter) >= 0 ? 1 : 0;
                }
            }
            return count;
        }

        int longest() {
            int longest = 0;
            for (int a = 0; a < states(); a++) {
                for (int b = 0; b < a; b++) {
                    longest = Math.max(longest, told(a, b).size());
                }
            }
            return longest;
        }
    }

    /** What the document says of an object. */
    static final class Model {
        int nodes = 1;
        int letters = 1;
        int start = 0;
        int walk = 0;
        Set<Way> ways = new HashSet<>();
        Made made = Made.of(Set.of(), 1, 0);

        boolean isNode(int node) {
            return node >= 0 && node < nodes;
        }

        boolean isLetter(int letter) {
            return letter >= 0 && letter < letters;
        }

        boolean begin(int newNodes, int newLetters) {
            if (newNodes < 1 || newNodes > 24 || newLetters < 1 || newLetters > 40) {
                return false;
            }
            nodes = newNodes;
            letters = newLetters;
            start = 0;
            ways.clear();
            return true;
        }

        boolean way(int from, int letter, int to, boolean on) {
            if (!isNode(from) || !isLetter(letter) || !isNode(to)) {
                return false;
            }
            Way way = new Way(from, letter, to);
            return on ? ways.add(way) : ways.remove(way);
        }

        int fill(int letter, int to) {
            if (!isLetter(letter) || !isNode(to)) {
                return -1;
            }
            int added = 0;
            for (int from = 0; from < nodes; from++) {
                added += ways.add(new Way(from, letter, to)) ? 1 : 0;
            }
            return added;
        }

        void turn() {
            Set<Way> turned = new HashSet<>();
            for (Way way : ways) {
                turned.add(new Way(way.to(), way.letter(), way.from()));
            }
            ways = turned;
        }

        boolean start(int node) {
            if (!isNode(node)) {
                return false;
            }
            start = node;
            return true;
        }

        int make() {
            Made next = Made.of(ways, letters, start);
            if (next == null) {
                return -1;
            }
            made = next;
            walk = 0;
            return made.states();
        }

        int go(int letter) {
            int next = made.to(walk, letter);
            walk = next < 0 ? walk : next;
            return next;
        }

        int nodes(int set) {
            int bits = 0;
            if (set >= 0 && set < made.sets.size()) {
                for (int node : made.sets.get(set)) {
                    bits += 1 << node;
                }
            }
            return bits;
        }

        int state(int set) {
            return set >= 0 && set < made.sets.size() ? made.stateOf[set] : -1;
        }

        int apart(int a, int b) {
            List<Integer> row = made.told(a, b);
            return row == null ? -1 : row.size();
        }

        int apartBy(int a, int b, int i) {
            List<Integer> row = made.told(a, b);
            return row == null || i < 0 || i >= row.size() ? -1 : row.get(i);
        }

        int look(int which) {
            return switch (which) {
                case 0 -> nodes;
                case 1 -> letters;
                case 2 -> ways.size();
                case 3 -> start;
                case 4 -> made.sets.size();
                case 5 -> made.states();
                case 6 -> made.letters;
                case 7 -> made.going();
                case 8 -> made.longest();
                case 9 -> walk;
                default -> -1;
            };
        }
    }

    /** One object and its model, called alike. */
    static final class Run {
        final int seed;
        final Random random;
        final Model model = new Model();
        final WayTable table = new WayTable();
        final int mostNodes;
        final int mostLetters;
        int call = 0;

        Run(int seed) {
            this.seed = seed;
            random = new Random(seed);
            boolean wide = seed % 5 == 0;
            mostNodes = wide ? 24 : 1 + random.nextInt(7);
            mostLetters = wide ? 1 + random.nextInt(40) : 1 + random.nextInt(3);
        }

        void same(String name, int got, int want, int... args) {
            if (got != want) {
                wrong++;
                if (wrong <= TOLD) {
                    System.out.println("seed " + seed + ", call " + call + ": " + name
                            + Arrays.toString(args) + " answered " + got
                            + ", due is " + want);
                }
            }
        }

        void same(String name, boolean got, boolean want, int... args) {
            same(name, got ? 1 : 0, want ? 1 : 0, args);
        }

        /** Mostly one of 0 .. bound - 1, now and then one beyond it. */
        int some(int bound) {
            return switch (random.nextInt(60)) {
                case 0 -> -1;
                case 1 -> bound;
                case 2 -> random.nextInt();
                case 3 -> bound + random.nextInt(20);
                default -> random.nextInt(bound);
            };
        }

        int node() {
            return some(model.nodes);
        }

        int letter() {
            return some(model.letters);
        }

        void everything() {
            int nodes = 1 + random.nextInt(mostNodes);
            int letters = 1 + random.nextInt(mostLetters);
            same("begin", table.begin(nodes, letters), model.begin(nodes, letters), nodes, letters);
            for (call = 1; call < CALLS; call++) {
                int kind = random.nextInt(100);
                // The first calls lay ways, so that there is something to make a table of.
                if (kind < 30 || call < nodes * 2) {
                    change(random.nextInt(100));
                } else if (kind < 34) {
                    same("make", table.make(), model.make());
                } else {
                    ask(random.nextInt(8));
                }
            }
        }

        /** Rings that are walked round at once: many sets, and long rows between them. */
        void rings() {
            int letters = 2 + random.nextInt(3);
            same("begin", table.begin(24, letters), model.begin(24, letters), 24, letters);
            int first = 2 + random.nextInt(12);
            int second = 2 + random.nextInt(Math.min(20 - first, 118 / first));
            int ringLetter = random.nextInt(letters);
            call = 1;
            ring(ringLetter, 0, first);
            ring(ringLetter, first, second);
            lay(23, ringLetter, 0);
            lay(23, ringLetter, first);
            same("start", table.start(23), model.start(23), 23);
            call++;
            int gaps = 1 + random.nextInt(3);
            gapped(0, first, gaps, ringLetter);
            gapped(first, second, gaps, ringLetter);
            same("make", table.make(), model.make());
            for (call++; call < CALLS; call++) {
                int kind = random.nextInt(400);
                if (kind < 2) {
                    same("make", table.make(), model.make());
                } else if (kind < 10) {
                    change(random.nextInt(82));
                } else {
                    ask(random.nextInt(8));
                }
            }
        }

        void ring(int letter, int first, int size) {
            for (int k = 0; k < size; k++) {
                lay(first + k, letter, first + (k + 1) % size);
            }
        }

        /** All but a few nodes of a ring go out of it, by other letters than the ring's. */
        void gapped(int first, int size, int gaps, int ringLetter) {
            for (int k = gaps; k < size; k++) {
                int letter = (ringLetter + 1 + random.nextInt(model.letters - 1)) % model.letters;
                lay(first + k, letter, random.nextInt(8) == 0 ? 23 : 22);
            }
        }

        void lay(int from, int letter, int to) {
            way(from, letter, to, true);
            call++;
        }

        void way(int from, int letter, int to, boolean on) {
            same("way", table.way(from, letter, to, on), model.way(from, letter, to, on),
                    from, letter, to, on ? 1 : 0);
        }

        void change(int kind) {
            if (kind < 82) {
                way(node(), letter(), node(), random.nextInt(4) != 0);
            } else if (kind < 84) {
                int letter = letter();
                int to = node();
                same("fill", table.fill(letter, to), model.fill(letter, to), letter, to);
            } else if (kind < 89) {
                table.turn();
                model.turn();
            } else if (kind < 94) {
                int node = node();
                same("start", table.start(node), model.start(node), node);
            } else if (kind < 96) {
                int nodes = some(mostNodes + 1);
                int letters = some(mostLetters + 1);
                same("begin", table.begin(nodes, letters), model.begin(nodes, letters),
                        nodes, letters);
            } else if (kind < 98) {
                table.home();
                model.walk = 0;
            } else {
                same("make", table.make(), model.make());
            }
        }

        void ask(int kind) {
            int a = some(model.made.states());
            int b = some(model.made.states());
            int letter = some(model.made.letters);
            int set = some(model.made.sets.size());
            switch (kind) {
                case 0 -> same("go", table.go(letter), model.go(letter), letter);
                case 1 -> same("to", table.to(a, letter), model.made.to(a, letter), a, letter);
                case 2 -> same("nodes", table.nodes(set), model.nodes(set), set);
                case 3 -> same("state", table.state(set), model.state(set), set);
                case 4 -> same("apart", table.apart(a, b), model.apart(a, b), a, b);
                case 5 -> {
                    int i = some(1 + Math.max(0, model.apart(a, b)));
                    same("apartBy", table.apartBy(a, b, i), model.apartBy(a, b, i), a, b, i);
                }
                case 6 -> {
                    int from = node();
                    int by = letter();
                    int to = node();
                    same("is", table.is(from, by, to),
                            model.ways.contains(new Way(from, by, to)), from, by, to);
                }
                default -> {
                    int which = some(10);
                    same("look", table.look(which), model.look(which), which);
                }
            }
        }
    }

    public static void main(String[] args) {
        int most = 0;
        int longest = 0;
        for (int seed = 0; seed < RUNS + RING_RUNS; seed++) {
            Run run = new Run(seed);
            if (seed < RUNS) {
                run.everything();
            } else {
                run.rings();
            }
            most = Math.max(most, run.model.made.states());
            longest = Math.max(longest, run.model.made.longest());
        }
        System.out.println("states at most " + most + ", rows at most " + longest);
        System.out.println(wrong == 0 ? "all runs agree" : wrong + " answers are not as due");
        if (wrong != 0) {
            System.exit(1);
        }
    }
}
