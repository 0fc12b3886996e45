import java.util.ArrayList;
import java.util.List;
import java.util.stream.IntStream;

/**
 * "What answers false or NONE changes nothing": behind each such call an object answers all that
 * can be asked as one does that was not called so.
 */
public final class WayTableRefusals {
    private static final int LOW = Integer.MIN_VALUE;
    private static final int HIGH = Integer.MAX_VALUE;
    private static final int NONE = -1;
    private static final int FALSE = 0;
    private static final int CALLS = 512;

    private static int wrong = 0;
    private static int compared = 0;

    private interface Answer {
        int of(WayTable x);
    }

    private record Call(String text, Answer answer) {
    }

    private record Refusal(Call call, int due) {
    }

    private static void report(String what) {
        wrong++;
        if (wrong <= 40) {
            System.out.println(what);
        }
    }

    private static Call call(String name, Answer answer, Object... args) {
        StringBuilder text = new StringBuilder(name).append('(');
        for (int i = 0; i < args.length; i++) {
            text.append(i == 0 ? "" : ", ").append(args[i]);
        }
        return new Call(text.append(')').toString(), answer);
    }

    private static int number(boolean answer) {
        return answer ? 1 : 0;
    }

    private static Call begin(int nodes, int letters) {
        return call("begin", x -> number(x.begin(nodes, letters)), nodes, letters);
    }

    private static Call way(int from, int letter, int to, boolean on) {
        return call("way", x -> number(x.way(from, letter, to, on)), from, letter, to, on);
    }

    private static Call fill(int letter, int to) {
        return call("fill", x -> x.fill(letter, to), letter, to);
    }

    private static Call turn() {
        return call("turn", x -> {
            x.turn();
            return 0;
        });
    }

    private static Call start(int node) {
        return call("start", x -> number(x.start(node)), node);
    }

    private static Call make() {
        return call("make", WayTable::make);
    }

    private static Call home() {
        return call("home", x -> {
            x.home();
            return 0;
        });
    }

    private static Call go(int letter) {
        return call("go", x -> x.go(letter), letter);
    }

    private static Call to(int state, int letter) {
        return call("to", x -> x.to(state, letter), state, letter);
    }

    private static Call nodes(int set) {
        return call("nodes", x -> x.nodes(set), set);
    }

    private static Call state(int set) {
        return call("state", x -> x.state(set), set);
    }

    private static Call apart(int a, int b) {
        return call("apart", x -> x.apart(a, b), a, b);
    }

    private static Call apartBy(int a, int b, int i) {
        return call("apartBy", x -> x.apartBy(a, b, i), a, b, i);
    }

    private static Call is(int from, int letter, int to) {
        return call("is", x -> number(x.is(from, letter, to)), from, letter, to);
    }

    private static Call look(int which) {
        return call("look", x -> x.look(which), which);
    }

    // Objects that calls are refused by

    private static List<Call> chain(int nodes, int letters) {
        List<Call> calls = new ArrayList<>(List.of(begin(nodes, letters)));
        for (int node = 0; node + 1 < nodes; node++) {
            calls.add(way(node, 0, node + 1, true));
        }
        return calls;
    }

    /** The table has more nodes and letters than there are now, and the walk is on its way. */
    private static List<Call> tableOfMore() {
        List<Call> calls = chain(5, 3);
        calls.addAll(List.of(way(0, 2, 3, true), way(0, 2, 1, true), way(3, 1, 0, true), start(0),
                make(), go(0), go(0), begin(3, 2), way(0, 0, 2, true), way(1, 1, 1, true),
                way(1, 1, 0, true), way(2, 0, 1, true), start(1)));
        return calls;
    }

    /** There are more nodes and letters now than the table has. */
    private static List<Call> tableOfLess() {
        List<Call> calls = chain(2, 1);
        calls.addAll(List.of(make(), go(0), begin(4, 4), fill(3, 2), way(3, 0, 1, true),
                way(3, 0, 0, true), way(2, 3, 1, true), way(1, 2, 3, true), start(3)));
        return calls;
    }

    private static void addRing(List<Call> calls, int first, int size) {
        for (int k = 0; k < size; k++) {
            calls.add(way(first + k, 0, first + (k + 1) % size, true));
        }
    }

    /** 15 sets of one node and 105 of two: no set more is allowed. */
    private static List<Call> tableOfMostSets() {
        List<Call> calls = new ArrayList<>(List.of(begin(23, 3)));
        addRing(calls, 0, 15);
        addRing(calls, 15, 7);
        calls.addAll(List.of(way(0, 1, 0, true), way(0, 1, 15, true), make(), go(0), go(0)));
        return calls;
    }

    /** One set too many: a node that is in no ring, by a letter that led nowhere before. */
    private static List<Call> oneSetTooMany() {
        List<Call> calls = tableOfMostSets();
        calls.addAll(List.of(way(14, 2, 22, true), start(0)));
        return calls;
    }

    /** Far too many sets, by other nodes and letters than the table has. */
    private static List<Call> farTooManySets(List<Call> before) {
        List<Call> calls = new ArrayList<>(before);
        calls.addAll(List.of(begin(24, 4), way(1, 0, 1, true), way(1, 3, 1, true),
                way(1, 3, 0, true), way(0, 0, 2, true), way(0, 3, 2, true), start(1)));
        for (int node = 2; node < 23; node++) {
            calls.add(way(node, 0, node + 1, true));
            calls.add(way(node, 3, node + 1, true));
        }
        return calls;
    }

    // What is asked, and what is refused

    private static WayTable after(List<Call> calls) {
        WayTable x = new WayTable();
        for (Call call : calls) {
            call.answer.of(x);
        }
        return x;
    }

    private static int[] beyond(int count) {
        return IntStream.of(LOW, -(1 << 29), -1, count, 24, 32, count + 32, 40, 120, 1 << 29, HIGH)
                .filter(number -> number < 0 || number >= count).distinct().toArray();
    }

    private static int[] withBeyond(int count) {
        return IntStream.concat(IntStream.range(0, count), IntStream.of(beyond(count))).toArray();
    }

    /** All that can be asked of an object, with what lies one beyond. */
    private static List<Call> questions(WayTable x) {
        List<Call> asks = new ArrayList<>();
        for (int which = -1; which <= 10; which++) {
            asks.add(look(which));
        }
        for (int from = 0; from <= x.look(0); from++) {
            for (int letter = 0; letter <= x.look(1); letter++) {
                for (int to = 0; to <= x.look(0); to++) {
                    asks.add(is(from, letter, to));
                }
            }
        }
        for (int set = 0; set <= x.look(4); set++) {
            asks.add(nodes(set));
            asks.add(state(set));
        }
        for (int a = 0; a <= x.look(5); a++) {
            for (int letter = 0; letter <= x.look(6); letter++) {
                asks.add(to(a, letter));
            }
            for (int b = 0; b <= x.look(5); b++) {
                asks.add(apart(a, b));
                for (int i = 0; i <= x.apart(a, b); i++) {
                    asks.add(apartBy(a, b, i));
                }
            }
        }
        return asks;
    }

    private static void addChanges(List<Refusal> refusals, WayTable x) {
        int[][] sizes = {{0, 1}, {1, 0}, {0, 0}, {-1, 1}, {1, -1}, {25, 1}, {1, 41}, {25, 40},
            {24, 41}, {25, 41}, {LOW, 1}, {1, LOW}, {LOW, LOW}, {HIGH, 1}, {1, HIGH}, {HIGH, HIGH},
            {LOW, HIGH}, {HIGH, LOW}, {1 << 16, 1 << 16}};
        for (int[] size : sizes) {
            refusals.add(new Refusal(begin(size[0], size[1]), FALSE));
        }
        int n = x.look(0);
        for (int bad : beyond(n)) {
            refusals.add(new Refusal(start(bad), FALSE));
            refusals.add(new Refusal(fill(0, bad), NONE));
            for (boolean on : new boolean[] {true, false}) {
                refusals.add(new Refusal(way(bad, 0, n - 1, on), FALSE));
                refusals.add(new Refusal(way(n - 1, 0, bad, on), FALSE));
            }
        }
        for (int bad : beyond(x.look(1))) {
            refusals.add(new Refusal(fill(bad, 0), NONE));
            refusals.add(new Refusal(way(0, bad, n - 1, true), FALSE));
            refusals.add(new Refusal(way(0, bad, n - 1, false), FALSE));
        }
    }

    private static void addWaysThatAreSo(List<Refusal> refusals, WayTable x) {
        for (int from = 0; from < x.look(0); from++) {
            for (int letter = 0; letter < x.look(1); letter++) {
                for (int to = 0; to < x.look(0); to++) {
                    boolean on = x.is(from, letter, to);
                    refusals.add(new Refusal(way(from, letter, to, on), FALSE));
                    if (!on) {
                        refusals.add(new Refusal(is(from, letter, to), FALSE));
                    }
                }
            }
        }
    }

    private static void addGoes(List<Refusal> refusals, WayTable x) {
        int walk = x.look(9);
        for (int letter : withBeyond(x.look(6))) {
            if (x.to(walk, letter) == NONE) {
                refusals.add(new Refusal(go(letter), NONE));
                refusals.add(new Refusal(to(walk, letter), NONE));
            }
        }
    }

    private static void addQuestions(List<Refusal> refusals, WayTable x) {
        for (int bad : beyond(x.look(0))) {
            refusals.add(new Refusal(is(bad, 0, 0), FALSE));
            refusals.add(new Refusal(is(0, 0, bad), FALSE));
        }
        for (int bad : beyond(x.look(1))) {
            refusals.add(new Refusal(is(0, bad, 0), FALSE));
        }
        for (int bad : beyond(x.look(4))) {
            refusals.add(new Refusal(nodes(bad), 0));
            refusals.add(new Refusal(state(bad), NONE));
        }
        for (int bad : beyond(x.look(5))) {
            refusals.add(new Refusal(to(bad, 0), NONE));
            refusals.add(new Refusal(apart(bad, 0), NONE));
            refusals.add(new Refusal(apart(0, bad), NONE));
            refusals.add(new Refusal(apart(bad, bad), NONE));
            refusals.add(new Refusal(apartBy(bad, 0, 0), NONE));
            refusals.add(new Refusal(apartBy(bad, bad, bad), NONE));
        }
        for (int bad : beyond(0)) {
            refusals.add(new Refusal(apartBy(0, 0, bad), NONE));
        }
        for (int bad : beyond(10)) {
            refusals.add(new Refusal(look(bad), NONE));
        }
    }

    private static List<Refusal> refusals(WayTable x) {
        List<Refusal> refusals = new ArrayList<>();
        addChanges(refusals, x);
        addWaysThatAreSo(refusals, x);
        addGoes(refusals, x);
        addQuestions(refusals, x);
        return refusals;
    }

    // The comparison

    /** As many objects answer as it takes for none of them to have more than 512 calls. */
    private static int[] answers(List<Call> calls, List<Call> asks) {
        int each = CALLS - calls.size();
        int[] answers = new int[asks.size()];
        WayTable x = null;
        for (int i = 0; i < answers.length; i++) {
            if (i % each == 0) {
                x = after(calls);
            }
            answers[i] = asks.get(i).answer.of(x);
        }
        return answers;
    }

    private static List<Call> joined(List<Call> calls, List<Call> more) {
        List<Call> all = new ArrayList<>(calls);
        all.addAll(more);
        return all;
    }

    /** Nothing is changed if nothing shows, neither at once nor behind what is called next. */
    private static void compare(List<Call> before, List<Refusal> refusals, List<Call> next) {
        List<Call> plain = joined(before, next);
        List<Call> asks = questions(after(plain));
        int[] want = answers(plain, asks);
        for (Refusal refusal : refusals) {
            int[] got = answers(joined(joined(before, List.of(refusal.call)), next), asks);
            for (int i = 0; i < want.length; i++) {
                compared++;
                if (got[i] != want[i]) {
                    report("behind " + refusal.call.text + ": " + asks.get(i).text + " answered "
                            + got[i] + ", due is " + want[i]);
                }
            }
        }
    }

    private static void areRefused(List<Call> before, List<Refusal> refusals) {
        for (Refusal refusal : refusals) {
            int got = refusal.call.answer.of(after(before));
            if (got != refusal.due) {
                report(refusal.call.text + " answered " + got + ", due is " + refusal.due);
            }
        }
    }

    private static void changeNothing(List<Call> before, List<Refusal> refusals) {
        areRefused(before, refusals);
        compare(before, refusals, List.of());
        compare(before, refusals, List.of(make()));
        compare(before, refusals, List.of(turn(), go(0), make(), go(0)));
        compare(before, refusals, List.of(home(), go(0)));
    }

    public static void main(String[] args) {
        for (List<Call> before : List.of(new ArrayList<Call>(), tableOfMore(), tableOfLess())) {
            changeNothing(before, refusals(after(before)));
        }
        List<Refusal> makes = List.of(new Refusal(make(), NONE));
        changeNothing(oneSetTooMany(), makes);
        changeNothing(farTooManySets(new ArrayList<>()), makes);
        changeNothing(farTooManySets(tableOfMore()), makes);
        changeNothing(farTooManySets(tableOfLess()), makes);
        changeNothing(farTooManySets(tableOfMostSets()), makes);
        System.out.println(compared + " answers compared");
        System.out.println(wrong == 0 ? "nothing changes" : wrong + " answers are not as due");
        if (wrong != 0) {
            System.exit(1);
        }
    }
}
