import java.lang.reflect.Modifier;
import java.util.ArrayList;
import java.util.Arrays;
import java.util.List;
import java.util.TreeSet;

/**
 * "A method that throws an exception changes nothing. If several exceptions apply, the one that is listed first is
 * thrown." Each method is called in several games with numbers on both sides of each of its limits, alone and
 * together: what is refused, and by which exception, is told by a table of rules, in the document's order. A game
 * with refused calls must go on like the same game without them; what no rule refuses must not throw.
 */
public final class RefusedTest {
    private static final int MIN = Integer.MIN_VALUE;
    private static final int MAX = Integer.MAX_VALUE;
    // With the calls that build a game and tell of it, an object stays within its 512 calls.
    private static final int REFUSED_A_GAME = 120;

    private interface Build {
        void on(Rollbacker x);
    }

    private interface Test {
        boolean applies(Facts game, int[] a);
    }

    private interface Call {
        Object on(Rollbacker x, int[] a);
    }

    private record Rule(Class<? extends RuntimeException> thrown, Test test) {
    }

    /** What is known of a game: made, done and boxes by peers; the peers 0 and 1 differ if they were made to. */
    private record Facts(String name, int players, int scripts, int[] lengths, int built, int now, int[] made,
            int[] done, int[] boxes, boolean differ, Build build) {
        boolean isStarted() {
            return players > 0;
        }

        boolean isPeer(int number) {
            return number >= 0 && number < players;
        }

        int leastMade() {
            int least = MAX;
            for (int number = 0; number < players; number++) {
                least = Math.min(least, made[number]);
            }
            return least;
        }
    }

    private record Method(String name, Call call, int[][] edges, Rule... rules) {
    }

    private static final int[] NONE = {0, 0, 0};
    private static final int[] NO_LENGTHS = {0, 0, 0, 0};
    private static final int[] PEERS = {0, MIN, -1, 1, 2, 3, MAX};
    private static final int[] PLACES = {0, MIN, -1, 1, 2, 3, 4, 15, 16, MAX};
    private static final int[] STEPS = {0, MIN, -1, 1, 4, 5, 7, 8, 9, 10, 11, 149, 150, MAX};
    private static final int[] SPEEDS = {0, MIN, -49, -48, 48, 49, MAX};

    public static void main(String[] args) {
        List<Facts> games = games();
        isWhole();
        for (Facts game : games) {
            facts(game);
            Object due = tale(begun(game));
            for (Method method : methods()) {
                tryOut(game, method, due);
            }
        }
        Check.end("RefusedTest");
    }

    // ---- the games

    private static List<Facts> games() {
        int[] lengths = {12, 1, 0, 0};
        int[] full = {12, 1, 0, 11};
        return List.of(
                new Facts("new", 0, 0, NO_LENGTHS, 0, 0, NONE, NONE, NONE, false, x -> { }),
                new Facts("built", 0, 2, lengths, 3, 0, NONE, NONE, NONE, false, RefusedTest::build),
                new Facts("full", 0, 4, full, 16, 0, NONE, NONE, NONE, false, RefusedTest::fill),
                new Facts("empty, started", 2, 0, NO_LENGTHS, 0, 0, NONE, NONE, NONE, false, x -> x.start(2)),
                new Facts("full, started", 3, 4, full, 16, 0, NONE, NONE, new int[] {16, 16, 16}, false,
                        x -> {
                            fill(x);
                            x.start(3);
                        }),
                new Facts("alone", 1, 2, lengths, 3, 5, new int[] {5}, new int[] {5}, new int[] {3}, false,
                        x -> {
                            build(x);
                            x.start(1);
                            x.tick(5);
                        }),
                new Facts("owing", 2, 2, lengths, 3, 14, new int[] {10, 11}, new int[] {8, 11}, new int[] {3, 3},
                        false, RefusedTest::owe),
                new Facts("cheated", 3, 2, lengths, 3, 9, new int[] {9, 9, 9}, new int[] {9, 9, 9},
                        new int[] {3, 3, 3}, true, RefusedTest::cheat),
                new Facts("late", 2, 2, lengths, 3, 390, new int[] {150, 150}, new int[] {150, 150},
                        new int[] {3, 3}, false, RefusedTest::late));
    }

    /** A runner, and a ball that a wall moves away in the first step, with the only effect. */
    private static void build(Rollbacker x) {
        Games.script(x, "w9 w9 w9 w9 w9 w9 w9 w9 w9 w9 w9 w9");
        Games.script(x, "t");
        Games.box(x, Games.RUNNER, 1000, 1000, 0);
        Games.box(x, Games.BALL, 2000, 1000, -1);
        Games.box(x, Games.WALL, 2010, 1000, 1);
    }

    private static void fill(Rollbacker x) {
        build(x);
        Games.script(x, "");
        Games.script(x, "w9 w9 w9 w9 w9 w9 w9 w9 w9 w9 w9");
        for (int place = 3; place < 16; place++) {
            Games.box(x, Games.BALL, 200 * place, 3000, place % 5 - 1);
        }
    }

    /** Peer 0 has taken 10 steps back and done 8 of them again. */
    private static void owe(Rollbacker x) {
        build(x);
        x.start(2);
        x.lose(0, 1, 12);
        x.lose(1, 0, 12);
        x.press(1, 8);
        x.tick(14);
        x.lose(0, 1, 2);
        x.setDelay(1, 0, 3);
    }

    private static void cheat(Rollbacker x) {
        build(x);
        x.start(3);
        x.tick(4);
        x.cheat(0, 1, Games.HITS, 7);
        x.tick(5);
    }

    private static void late(Rollbacker x) {
        build(x);
        x.start(2);
        Games.pass(x, 390);
    }

    /** The table has a row for each method of the face. */
    private static void isWhole() {
        TreeSet<String> face = new TreeSet<>();
        for (java.lang.reflect.Method method : Rollbacker.class.getDeclaredMethods()) {
            if (Modifier.isPublic(method.getModifiers())) {
                face.add(method.getName());
            }
        }
        TreeSet<String> table = new TreeSet<>();
        for (Method method : methods()) {
            table.add(method.name);
        }
        Check.gives("methods in the table", table::toString, face.toString());
    }

    private static Rollbacker begun(Facts game) {
        Rollbacker x = new Rollbacker();
        game.build.on(x);
        return x;
    }

    private static void facts(Facts game) {
        Rollbacker x = begun(game);
        for (int i = 0; i < game.players; i++) {
            int peer = i;
            Check.gives(game.name + ", done " + i, () -> x.done(peer), game.done[i]);
            Check.gives(game.name + ", made " + i, () -> x.known(peer, peer), game.made[i]);
            Check.gives(game.name + ", boxes " + i, () -> x.boxes(peer), game.boxes[i]);
        }
    }

    /** All that can be told of a game, now and later. */
    private static Object tale(Rollbacker x) {
        StringBuilder told = new StringBuilder();
        tell(told, () -> x.addScript());
        tell(told, () -> x.addOperation(1, 'f', 0, 0));
        tell(told, () -> x.addOperation(2, 'f', 0, 0));
        tell(told, () -> x.addBox(1, 1500, 1500, 10, 1, 0, 2));
        tell(told, () -> x.push(0, 1, -1));
        tell(told, () -> x.push(2, 1, -1));
        tell(told, () -> x.start(3));
        snapshot(told, x);
        tell(told, () -> x.tick(1));
        snapshot(told, x);
        tell(told, () -> x.tick(5));
        snapshot(told, x);
        for (int i = 0; i < 3; i++) {
            int peer = i;
            tell(told, () -> x.press(peer, 2));
            for (int j = 0; j < 3; j++) {
                int to = j;
                tell(told, () -> x.setDelay(peer, to, 1));
                tell(told, () -> x.lose(peer, to, 0));
            }
        }
        tell(told, () -> x.tick(3));
        snapshot(told, x);
        return told.toString();
    }

    private static void tell(StringBuilder told, Check.Call call) {
        told.append(Check.answerOf(call)).append(' ');
    }

    private static void snapshot(StringBuilder told, Rollbacker x) {
        for (int i = 0; i < 3; i++) {
            int peer = i;
            tell(told, () -> x.done(peer));
            tell(told, () -> x.owed(peer));
            tell(told, () -> x.confirmed(peer));
            tell(told, () -> x.known(peer, 0));
            tell(told, () -> x.known(peer, 1));
            tell(told, () -> x.known(peer, 2));
            tell(told, () -> x.stalls(peer));
            tell(told, () -> x.takenBack(peer));
            tell(told, () -> x.boxes(peer));
            tell(told, () -> x.hash(peer, 0));
            tell(told, () -> x.hash(peer, x.done(peer) - 1));
            tell(told, () -> x.shown(peer));
            tell(told, () -> x.cancelled(peer));
            tell(told, () -> x.effects(peer, 0));
            tell(told, () -> x.effectAt(peer, 0, 0));
        }
        tell(told, x::flying);
        tell(told, x::steps);
        tell(told, x::waste);
        tell(told, x::isSound);
        tell(told, () -> x.difference(0, 1));
        tell(told, () -> x.loneHash(0));
        told.append('\n');
    }

    // ---- the calls

    private static void tryOut(Facts game, Method method, Object due) {
        List<int[]> refused = new ArrayList<>();
        for (int[] a : variants(method.edges)) {
            if (thrownBy(game, method, a) != null) {
                refused.add(a);
                continue;
            }
            Rollbacker x = begun(game);
            Object answer = Check.answerOf(() -> method.call.on(x, a));
            Check.holds(told(game, method, a) + " is refused", !answer.toString().startsWith("throws."));
        }
        for (int from = 0; from < refused.size(); from += REFUSED_A_GAME) {
            Rollbacker x = begun(game);
            for (int[] a : refused.subList(from, Math.min(refused.size(), from + REFUSED_A_GAME))) {
                Check.fails(told(game, method, a), () -> method.call.on(x, a), thrownBy(game, method, a));
            }
            Check.gives(game.name + ": refused calls of " + method.name + " changed it, as it", () -> tale(x), due);
        }
    }

    private static String told(Facts game, Method method, int[] a) {
        return game.name + ": " + method.name + Arrays.toString(a);
    }

    private static Class<? extends RuntimeException> thrownBy(Facts game, Method method, int[] a) {
        for (Rule rule : method.rules) {
            if (rule.test.applies(game, a)) {
                return rule.thrown;
            }
        }
        return null;
    }

    /** All ways to take the numbers, or, if these are too many, those with two that are not the first of theirs. */
    private static List<int[]> variants(int[][] edges) {
        int all = 1;
        for (int[] edge : edges) {
            all *= edge.length;
        }
        List<int[]> variants = new ArrayList<>();
        int[] first = new int[edges.length];
        for (int i = 0; i < edges.length; i++) {
            first[i] = edges[i][0];
        }
        if (all <= 1500) {
            addAll(variants, edges, first, 0);
            return variants;
        }
        for (int i = 0; i < edges.length; i++) {
            for (int j = i + 1; j < edges.length; j++) {
                for (int one : edges[i]) {
                    for (int two : edges[j]) {
                        int[] variant = first.clone();
                        variant[i] = one;
                        variant[j] = two;
                        variants.add(variant);
                    }
                }
            }
        }
        return variants;
    }

    private static void addAll(List<int[]> variants, int[][] edges, int[] begun, int index) {
        if (index == edges.length) {
            variants.add(begun.clone());
            return;
        }
        for (int number : edges[index]) {
            begun[index] = number;
            addAll(variants, edges, begun, index + 1);
        }
    }

    private static int[][] by(int[]... edges) {
        return edges;
    }

    private static boolean isOut(long number, int least, int most) {
        return number < least || number > most;
    }

    private static Rule state(Test test) {
        return new Rule(Games.STATE, test);
    }

    private static Rule argument(Test test) {
        return new Rule(Games.ARGUMENT, test);
    }

    private static Rule index(Test test) {
        return new Rule(Games.INDEX, test);
    }

    private static Rule element(Test test) {
        return new Rule(Games.ELEMENT, test);
    }

    // ---- the table

    private static List<Method> methods() {
        List<Method> methods = new ArrayList<>();
        addBuilding(methods);
        addLinksAndInputs(methods);
        addPeers(methods);
        addWorlds(methods);
        addEffectsAndDifferences(methods);
        return methods;
    }

    private static boolean isWrongOperation(int kind, int a, int b) {
        switch (kind) {
            case 'w':
                return isOut(a, 1, 99);
            case 'v':
            case 'a':
                return isOut(a, -48, 48) || isOut(b, -48, 48);
            case 'g':
                return isOut(a, 0, 11);
            case 'r':
                return isOut(a, 1, 20);
            default:
                return "tfe".indexOf(kind) < 0;
        }
    }

    private static boolean isWrongBox(int[] a) {
        return a[0] != 0 && a[0] != 1 && a[0] != 3 || isOut(a[3], 2, 255) || isOut(a[4], 1, 9)
                || (long) a[1] - a[3] < 0 || (long) a[2] - a[3] < 0
                || (long) a[1] + a[3] > 4095 || (long) a[2] + a[3] > 4095
                || a[0] == 0 && isOut(a[5], 0, 2);
    }

    private static void addBuilding(List<Method> methods) {
        methods.add(new Method("addScript", (x, a) -> x.addScript(), by(),
                state((game, a) -> game.scripts == 4 || game.isStarted())));
        int[] kinds = {'w', 't', 'v', 'a', 'g', 'f', 'r', 'e', 0, 'W', 'b', 'q', 's', 'x', 'w' + 256, 65535};
        int[] scripts = {1, MIN, -1, 0, 2, 3, 4, MAX};
        int[] firsts = {1, MIN, -49, -48, -1, 0, 11, 12, 20, 21, 48, 49, 99, 100, MAX};
        methods.add(new Method("addOperation", (x, a) -> x.addOperation(a[0], (char) a[1], a[2], a[3]),
                by(scripts, kinds, firsts, SPEEDS),
                index((game, a) -> isOut(a[0], 0, game.scripts - 1)),
                argument((game, a) -> isWrongOperation(a[1], a[2], a[3])),
                state((game, a) -> game.lengths[a[0]] == 12 || game.isStarted())));
        // The pairs of x or y and the half hold the last numbers that fit, and the first that do not.
        int[] boxKinds = {1, MIN, -1, 0, 2, 3, 4, MAX};
        int[] at = {255, MIN, MIN + 255, -1, 0, 1, 2, 9, 10, 254, 256, 3839, 3840, 3841, 4085, 4086, 4093, 4094, 4095,
            4096, MAX - 255, MAX};
        int[] halves = {10, MIN, -2, -1, 0, 1, 2, 3, 254, 255, 256, MAX};
        int[] hits = {1, MIN, -1, 0, 9, 10, MAX};
        int[] owners = {0, MIN, -1, 1, 2, 3, MAX};
        int[] boxScripts = {-1, MIN, -2, 0, 1, 2, 3, 4, MAX};
        methods.add(new Method("addBox", (x, a) -> x.addBox(a[0], a[1], a[2], a[3], a[4], a[5], a[6]),
                by(boxKinds, at, at, halves, hits, owners, boxScripts),
                argument((game, a) -> isWrongBox(a)),
                index((game, a) -> isOut(a[6], -1, game.scripts - 1)),
                state((game, a) -> game.built == 16 || game.isStarted())));
        methods.add(new Method("push", (x, a) -> x.push(a[0], a[1], a[2]), by(PLACES, SPEEDS, SPEEDS),
                element((game, a) -> isOut(a[0], 0, game.built - 1)),
                argument((game, a) -> isOut(a[1], -48, 48) || isOut(a[2], -48, 48)),
                state((game, a) -> game.isStarted())));
        methods.add(new Method("start", (x, a) -> x.start(a[0]), by(new int[] {1, MIN, -1, 0, 2, 3, 4, MAX}),
                argument((game, a) -> isOut(a[0], 1, 3)),
                state((game, a) -> game.isStarted())));
    }

    private static void addLinksAndInputs(List<Method> methods) {
        methods.add(new Method("press", (x, a) -> x.press(a[0], a[1]),
                by(PEERS, new int[] {0, MIN, -1, 1, 30, 31, 32, 33, MAX}),
                index((game, a) -> !game.isPeer(a[0])),
                argument((game, a) -> isOut(a[1], 0, 31))));
        methods.add(new Method("setDelay", (x, a) -> x.setDelay(a[0], a[1], a[2]),
                by(PEERS, PEERS, new int[] {1, MIN, -1, 0, 2, 9, 10, MAX}),
                index((game, a) -> !game.isPeer(a[0]) || !game.isPeer(a[1])),
                argument((game, a) -> a[0] == a[1] || isOut(a[2], 1, 9))));
        methods.add(new Method("lose", (x, a) -> x.lose(a[0], a[1], a[2]),
                by(PEERS, PEERS, new int[] {0, MIN, -1, 1, 50, 51, MAX}),
                index((game, a) -> !game.isPeer(a[0]) || !game.isPeer(a[1])),
                argument((game, a) -> a[0] == a[1] || isOut(a[2], 0, 50))));
        methods.add(new Method("tick", (x, a) -> x.tick(a[0]),
                by(new int[] {1, MIN, -1, 0, 10, 11, 19, 20, 21, 400, 401, MAX - 389, MAX}),
                state((game, a) -> !game.isStarted()),
                argument((game, a) -> isOut(a[0], 1, 20) || (long) game.now + a[0] > 400)));
    }

    private static void addPeers(List<Method> methods) {
        addPeer(methods, "done", (x, a) -> x.done(a[0]));
        addPeer(methods, "owed", (x, a) -> x.owed(a[0]));
        addPeer(methods, "confirmed", (x, a) -> x.confirmed(a[0]));
        addPeer(methods, "stalls", (x, a) -> x.stalls(a[0]));
        addPeer(methods, "takenBack", (x, a) -> x.takenBack(a[0]));
        addPeer(methods, "boxes", (x, a) -> x.boxes(a[0]));
        addPeer(methods, "shown", (x, a) -> x.shown(a[0]));
        addPeer(methods, "cancelled", (x, a) -> x.cancelled(a[0]));
        methods.add(new Method("known", (x, a) -> x.known(a[0], a[1]), by(PEERS, PEERS),
                index((game, a) -> !game.isPeer(a[0]) || !game.isPeer(a[1]))));
        methods.add(new Method("flying", (x, a) -> x.flying(), by()));
        methods.add(new Method("steps", (x, a) -> x.steps(), by()));
        methods.add(new Method("isSound", (x, a) -> x.isSound(), by()));
        methods.add(new Method("waste", (x, a) -> x.waste(), by(), element((game, a) -> game.now == 0)));
    }

    private static void addPeer(List<Method> methods, String name, Call call) {
        methods.add(new Method(name, call, by(PEERS), index((game, a) -> !game.isPeer(a[0]))));
    }

    private static void addWorlds(List<Method> methods) {
        methods.add(new Method("field", (x, a) -> x.field(a[0], a[1], a[2]),
                by(PEERS, PLACES, new int[] {0, MIN, -1, 1, 14, 15, MAX}),
                index((game, a) -> !game.isPeer(a[0])),
                element((game, a) -> isOut(a[1], 0, game.boxes[a[0]] - 1)),
                argument((game, a) -> isOut(a[2], 0, 14))));
        methods.add(new Method("hash", (x, a) -> x.hash(a[0], a[1]), by(PEERS, STEPS),
                index((game, a) -> !game.isPeer(a[0])),
                element((game, a) -> isOut(a[1], 0, game.done[a[0]] - 1))));
        methods.add(new Method("loneHash", (x, a) -> x.loneHash(a[0]), by(STEPS),
                state((game, a) -> !game.isStarted()),
                element((game, a) -> isOut(a[0], 0, game.leastMade() - 1))));
        int[] someSteps = {4, MIN, -1, 0, 5, 9, 10, 149, 150, MAX};
        int[] inputs = {0, MIN, -1, 31, 32, MAX};
        methods.add(new Method("hashWith", (x, a) -> x.hashWith(a[0], a[1], a[2], a[3]),
                by(someSteps, new int[] {0, -1, 1, 2, 3}, inputs, new int[] {4, -1, 3, 5, 9, 10, 149, 150, MAX}),
                state((game, a) -> !game.isStarted()),
                argument((game, a) -> !game.isPeer(a[1]) || isOut(a[2], 0, 31) || a[3] < a[0]),
                element((game, a) -> a[0] < 0 || a[3] >= game.leastMade())));
        methods.add(new Method("cheat", (x, a) -> x.cheat(a[0], a[1], a[2], a[3]),
                by(PEERS, PLACES, new int[] {2, MIN, -1, 1, 7, 8, MAX}, new int[] {0, MIN, -1, 48, 49, MAX}),
                index((game, a) -> !game.isPeer(a[0])),
                element((game, a) -> isOut(a[1], 0, game.boxes[a[0]] - 1) || game.done[a[0]] == 0),
                argument((game, a) -> isOut(a[2], 2, 7) || isOut(a[3], 0, 48))));
    }

    private static void addEffectsAndDifferences(List<Method> methods) {
        methods.add(new Method("effects", (x, a) -> x.effects(a[0], a[1]), by(PEERS, STEPS),
                index((game, a) -> !game.isPeer(a[0])),
                element((game, a) -> isOut(a[1], 0, game.made[a[0]] - 1))));
        // The first step has one effect, and no other step has any: see build.
        methods.add(new Method("effectAt", (x, a) -> x.effectAt(a[0], a[1], a[2]),
                by(PEERS, STEPS, new int[] {0, MIN, -1, 1, 15, MAX}),
                index((game, a) -> !game.isPeer(a[0])),
                element((game, a) -> isOut(a[1], 0, game.made[a[0]] - 1) || a[1] != 0 || a[2] != 0)));
        addDifference(methods, "difference", (x, a) -> x.difference(a[0], a[1]));
        addDifference(methods, "differentPlace", (x, a) -> x.differentPlace(a[0], a[1]));
        addDifference(methods, "differentField", (x, a) -> x.differentField(a[0], a[1]));
    }

    private static void addDifference(List<Method> methods, String name, Call call) {
        methods.add(new Method(name, call, by(PEERS, PEERS),
                index((game, a) -> !game.isPeer(a[0]) || !game.isPeer(a[1])),
                element((game, a) -> !game.differ || a[0] == a[1] || a[0] != 0 && a[1] != 0)));
    }
}
