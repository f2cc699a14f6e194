import java.util.ArrayList;
import java.util.Arrays;
import java.util.HashMap;
import java.util.List;
import java.util.Map;
import java.util.NoSuchElementException;
import java.util.TreeSet;

/**
 * A second engine with the same face, written from the document without a look at speed or room: boxes are
 * objects, worlds are copied for each step, packets hold their inputs, and the lone run begins anew each time.
 */
public final class Twin {
    /** The names of the fields, by their numbers. */
    private enum F {
        GENERATION, KIND, X, Y, VX, VY, HALF, HITS, OWNER, TIMER, FACING, SCRIPT, PLACE, WAIT, TOUCHED
    }

    private static final class Box {
        final int[] fields = new int[15];
        boolean destroyed;

        int get(F field) {
            return fields[field.ordinal()];
        }

        void set(F field, int value) {
            fields[field.ordinal()] = value;
        }

        void add(F field, int value) {
            fields[field.ordinal()] += value;
        }

        Box copy() {
            Box box = new Box();
            System.arraycopy(fields, 0, box.fields, 0, 15);
            return box;
        }
    }

    private static final class World {
        final Box[] places = new Box[16];
        final int[] generations = new int[16];
        int seed = 1;

        World copy() {
            World world = new World();
            for (int i = 0; i < 16; i++) {
                world.places[i] = places[i] == null ? null : places[i].copy();
                world.generations[i] = generations[i];
            }
            world.seed = seed;
            return world;
        }

        int place(Box box) {
            for (int i = 0; i < 16; i++) {
                if (places[i] == null) {
                    places[i] = box;
                    box.set(F.GENERATION, ++generations[i]);
                    return i;
                }
            }
            return -1;
        }

        int hash() {
            int hash = 17;
            for (int i = 0; i < 16; i++) {
                if (places[i] != null) {
                    hash = 31 * hash + i;
                    for (int field : places[i].fields) {
                        hash = 31 * hash + field;
                    }
                }
            }
            return 31 * hash + seed;
        }
    }

    private record Operation(char kind, int a, int b) {
    }

    private record Fired(Box by, int place, int facing) {
    }

    private record Effect(int first, int second, int kind) implements Comparable<Effect> {
        @Override
        public int compareTo(Effect other) {
            if (first != other.first) {
                return first - other.first;
            }
            return second != other.second ? second - other.second : kind - other.kind;
        }
    }

    private record Packet(int from, int to, int sent, int arrives, int begin, List<Integer> inputs, int told) {
    }

    private static final class Peer {
        int number;
        final List<List<Integer>> known = new ArrayList<>();
        int[] heard;
        final List<World> worlds = new ArrayList<>();
        final List<int[]> doneWith = new ArrayList<>();
        final Map<Integer, TreeSet<Effect>> shown = new HashMap<>();
        final Map<Integer, TreeSet<Effect>> lastCame = new HashMap<>();
        final TreeSet<Integer> again = new TreeSet<>();
        int owed;
        int stalls;
        int back;
        int shownCount;
        int cancelledCount;
        boolean cheated;
    }

    private final List<List<Operation>> scripts = new ArrayList<>();
    private final World built = new World();
    private final List<Peer> peers = new ArrayList<>();
    private final List<Packet> packets = new ArrayList<>();
    private int[] pressed = new int[0];
    private int[][] delays;
    private int[][] losses;
    private int now;
    private long allSteps;

    // ---- a step

    private World step(World before, int[] inputs, TreeSet<Effect> effects) {
        World world = before.copy();
        List<Fired> fired = new ArrayList<>();
        for (int i = 0; i < 16; i++) {
            Box box = world.places[i];
            if (box != null && box.get(F.KIND) == 0) {
                int owner = box.get(F.OWNER);
                steer(box, i, owner < inputs.length ? inputs[owner] : 0, fired);
            }
        }
        for (int i = 0; i < 16; i++) {
            if (world.places[i] != null) {
                script(world, world.places[i], i, fired);
            }
        }
        for (Box box : world.places) {
            if (box != null) {
                box.set(F.TOUCHED, 0);
            }
        }
        for (Box box : world.places) {
            if (box != null && !box.destroyed && box.get(F.KIND) != 3) {
                move(box);
            }
        }
        List<int[]> couples = new ArrayList<>();
        for (int i = 0; i < 16; i++) {
            for (int j = i + 1; j < 16; j++) {
                if (overlap(world.places[i], world.places[j])) {
                    couples.add(new int[] {i, j});
                }
            }
        }
        for (int[] couple : couples) {
            contact(world, couple[0], couple[1], effects);
        }
        end(world, fired);
        return world;
    }

    private void steer(Box box, int place, int input, List<Fired> fired) {
        if (box.get(F.TIMER) > 0) {
            box.add(F.TIMER, -1);
        }
        boolean left = (input & 1) > 0;
        boolean right = (input & 2) > 0;
        boolean up = (input & 4) > 0;
        boolean down = (input & 8) > 0;
        if (right) {
            box.add(F.VX, 4);
        }
        if (left) {
            box.add(F.VX, -4);
        }
        if (down) {
            box.add(F.VY, 4);
        }
        if (up) {
            box.add(F.VY, -4);
        }
        for (F speed : new F[] {F.VX, F.VY}) {
            if (box.get(speed) > 48) {
                box.set(speed, 48);
            }
            if (box.get(speed) < -48) {
                box.set(speed, -48);
            }
        }
        int told = (left ? 1 : 0) + (right ? 1 : 0) + (up ? 1 : 0) + (down ? 1 : 0);
        if (told == 1) {
            box.set(F.FACING, right ? 0 : down ? 1 : left ? 2 : 3);
        }
        if ((input & 16) > 0 && box.get(F.TIMER) == 0) {
            fired.add(new Fired(box, place, box.get(F.FACING)));
            box.set(F.TIMER, 8);
        }
    }

    private void script(World world, Box box, int place, List<Fired> fired) {
        int count = 0;
        while (box.get(F.SCRIPT) >= 0 && !box.destroyed) {
            List<Operation> operations = scripts.get(box.get(F.SCRIPT));
            if (box.get(F.PLACE) >= operations.size()) {
                box.set(F.SCRIPT, -1);
                return;
            }
            if (box.get(F.WAIT) > 0) {
                box.add(F.WAIT, -1);
                return;
            }
            if (count == 8) {
                box.set(F.SCRIPT, -1);
                return;
            }
            Operation operation = operations.get(box.get(F.PLACE));
            if (operation.kind == 't' && box.get(F.TOUCHED) == 0) {
                return;
            }
            box.add(F.PLACE, 1);
            count++;
            if (operation.kind == 'w') {
                box.set(F.WAIT, operation.a);
            } else if (operation.kind == 'v') {
                box.set(F.VX, operation.a);
                box.set(F.VY, operation.b);
            } else if (operation.kind == 'a') {
                box.add(F.VX, operation.a);
                box.add(F.VY, operation.b);
            } else if (operation.kind == 'g') {
                box.set(F.PLACE, operation.a);
            } else if (operation.kind == 'f') {
                fired.add(new Fired(box, place, box.get(F.FACING)));
            } else if (operation.kind == 'r') {
                world.seed = (int) (1103515245L * world.seed + 12345L);
                int random = (world.seed >>> 16) & 32767;
                box.add(F.VX, random % (2 * operation.a + 1) - operation.a);
            } else if (operation.kind == 'e') {
                box.destroyed = true;
            }
        }
    }

    private static int cut(int number, int divisor) {
        int size = Math.abs(number) / divisor;
        return number < 0 ? -size : size;
    }

    private void move(Box box) {
        box.add(F.X, box.get(F.VX));
        box.add(F.Y, box.get(F.VY));
        if (box.get(F.KIND) == 0) {
            box.add(F.VX, -cut(box.get(F.VX), 8));
            box.add(F.VY, -cut(box.get(F.VY), 8));
        }
        edge(box, F.X, F.VX);
        edge(box, F.Y, F.VY);
    }

    private void edge(Box box, F at, F speed) {
        int half = box.get(F.HALF);
        boolean low = box.get(at) - half < 0;
        boolean high = box.get(at) + half > 4095;
        if (low) {
            box.set(at, half);
        } else if (high) {
            box.set(at, 4095 - half);
        }
        if (low || high) {
            box.set(speed, cut(-3 * box.get(speed), 4));
            if (box.get(F.KIND) == 2) {
                box.destroyed = true;
            }
        }
    }

    private boolean overlap(Box one, Box two) {
        if (one == null || two == null || one.destroyed || two.destroyed) {
            return false;
        }
        int halves = one.get(F.HALF) + two.get(F.HALF);
        return Math.abs(one.get(F.X) - two.get(F.X)) < halves && Math.abs(one.get(F.Y) - two.get(F.Y)) < halves;
    }

    private void contact(World world, int i, int j, TreeSet<Effect> effects) {
        Box one = world.places[i];
        Box two = world.places[j];
        int kinds = one.get(F.KIND) * 10 + two.get(F.KIND);
        if (one.destroyed || two.destroyed || kinds == 33 || kinds == 22) {
            return;
        }
        if (one.get(F.KIND) == 2 && one.get(F.OWNER) == j || two.get(F.KIND) == 2 && two.get(F.OWNER) == i) {
            return;
        }
        one.set(F.TOUCHED, 1);
        two.set(F.TOUCHED, 1);
        if (one.get(F.KIND) == 2 || two.get(F.KIND) == 2) {
            Box shot = one.get(F.KIND) == 2 ? one : two;
            Box other = shot == one ? two : one;
            shot.destroyed = true;
            if (other.get(F.KIND) == 0) {
                other.add(F.HITS, -1);
                other.destroyed = other.get(F.HITS) == 0;
            }
            effects.add(new Effect(i, j, other.get(F.KIND) == 0 ? 1 : 2));
            return;
        }
        int halves = one.get(F.HALF) + two.get(F.HALF);
        int depthX = Math.max(halves - Math.abs(one.get(F.X) - two.get(F.X)), 0);
        int depthY = Math.max(halves - Math.abs(one.get(F.Y) - two.get(F.Y)), 0);
        F at = depthY < depthX ? F.Y : F.X;
        F speed = depthY < depthX ? F.VY : F.VX;
        int depth = Math.min(depthX, depthY);
        if (one.get(F.KIND) == 3 || two.get(F.KIND) == 3) {
            Box wall = one.get(F.KIND) == 3 ? one : two;
            Box other = wall == one ? two : one;
            int way = other.get(at) < wall.get(at) ? -1 : 1;
            other.add(at, way * depth);
            if (other.get(speed) * way < 0) {
                other.set(speed, cut(-3 * other.get(speed), 4));
            }
            effects.add(new Effect(i, j, 3));
            return;
        }
        Box greater = two.get(at) >= one.get(at) ? two : one;
        Box less = greater == two ? one : two;
        int share = depth / 2;
        greater.add(at, greater == one ? share : depth - share);
        less.add(at, less == one ? -share : -(depth - share));
        if (less.get(speed) > greater.get(speed)) {
            int kept = less.get(speed);
            less.set(speed, greater.get(speed));
            greater.set(speed, kept);
        }
        effects.add(new Effect(i, j, 4));
    }

    private void end(World world, List<Fired> fired) {
        for (int i = 0; i < 16; i++) {
            Box box = world.places[i];
            if (box != null && box.get(F.KIND) == 2 && !box.destroyed) {
                box.add(F.TIMER, -1);
                box.destroyed = box.get(F.TIMER) == 0;
            }
            if (box != null && box.destroyed) {
                world.places[i] = null;
            }
        }
        for (Fired one : fired) {
            Box shot = new Box();
            shot.set(F.KIND, 2);
            shot.set(F.X, one.by.get(F.X));
            shot.set(F.Y, one.by.get(F.Y));
            shot.set(F.VX, one.facing == 0 ? 32 : one.facing == 2 ? -32 : 0);
            shot.set(F.VY, one.facing == 1 ? 32 : one.facing == 3 ? -32 : 0);
            shot.set(F.HALF, 2);
            shot.set(F.HITS, 1);
            shot.set(F.OWNER, one.place);
            shot.set(F.TIMER, 20);
            shot.set(F.FACING, one.facing);
            shot.set(F.SCRIPT, -1);
            world.place(shot);
        }
    }

    // ---- peers

    private World worldOf(Peer peer) {
        return peer.worlds.isEmpty() ? built : peer.worlds.get(peer.worlds.size() - 1);
    }

    private int confirmedOf(Peer peer) {
        int count = 0;
        while (count < peer.worlds.size()) {
            for (int player = 0; player < peers.size(); player++) {
                if (peer.known.get(player).size() <= count) {
                    return count;
                }
            }
            count++;
        }
        return count;
    }

    private void doStep(Peer peer) {
        int number = peer.worlds.size();
        int[] inputs = new int[peers.size()];
        for (int player = 0; player < inputs.length; player++) {
            List<Integer> known = peer.known.get(player);
            if (number < known.size()) {
                inputs[player] = known.get(number);
            } else if (!known.isEmpty()) {
                inputs[player] = known.get(known.size() - 1);
            }
        }
        TreeSet<Effect> came = new TreeSet<>();
        World world = step(worldOf(peer), inputs, came);
        peer.worlds.add(world);
        peer.doneWith.add(inputs);
        peer.lastCame.put(number, came);
        TreeSet<Effect> shown = peer.shown.computeIfAbsent(number, key -> new TreeSet<>());
        for (Effect effect : came) {
            if (shown.add(effect)) {
                peer.shownCount++;
            }
        }
        allSteps++;
    }

    private void receive(Peer peer) {
        for (Packet packet : packets) {
            if (packet.to == peer.number && packet.arrives == now) {
                List<Integer> known = peer.known.get(packet.from);
                if (packet.begin > known.size()) {
                    throw new AssertionError("a packet leaves a gap");
                }
                for (int i = known.size() - packet.begin; i < packet.inputs.size(); i++) {
                    known.add(packet.inputs.get(i));
                }
                peer.heard[packet.from] = Math.max(peer.heard[packet.from], packet.told);
            }
        }
    }

    private void goBack(Peer peer) {
        int first = -1;
        for (int i = 0; i < peer.worlds.size() && first < 0; i++) {
            for (int player = 0; player < peers.size(); player++) {
                List<Integer> known = peer.known.get(player);
                if (i < known.size() && known.get(i) != peer.doneWith.get(i)[player]) {
                    first = i;
                }
            }
        }
        while (first >= 0 && peer.worlds.size() > first) {
            int last = peer.worlds.size() - 1;
            peer.worlds.remove(last);
            peer.doneWith.remove(last);
            peer.again.add(last);
            peer.owed++;
            peer.back++;
        }
    }

    private void turn(Peer peer) {
        receive(peer);
        goBack(peer);
        int budget = 8;
        while (peer.owed > 0 && budget > 0) {
            doStep(peer);
            peer.owed--;
            budget--;
        }
        if (peer.owed == 0) {
            for (int i : peer.again) {
                TreeSet<Effect> gone = new TreeSet<>(peer.shown.get(i));
                gone.removeAll(peer.lastCame.get(i));
                peer.cancelledCount += gone.size();
                peer.shown.get(i).removeAll(gone);
            }
            peer.again.clear();
        }
        int count = peer.worlds.size();
        if (peer.owed > 0 || budget == 0 || count - confirmedOf(peer) >= 10 || count >= 150) {
            peer.stalls++;
        } else {
            peer.known.get(peer.number).add(pressed[peer.number]);
            doStep(peer);
        }
        for (int to = 0; to < peers.size(); to++) {
            if (to == peer.number) {
                continue;
            }
            if (losses[peer.number][to] > 0) {
                losses[peer.number][to]--;
                continue;
            }
            List<Integer> own = peer.known.get(peer.number);
            int begin = peer.heard[to];
            List<Integer> inputs = new ArrayList<>(own.subList(begin, own.size()));
            int arrives = now + delays[peer.number][to];
            packets.add(new Packet(peer.number, to, now, arrives, begin, inputs, peer.known.get(to).size()));
        }
    }

    // ---- the face

    private boolean started() {
        return !peers.isEmpty();
    }

    private Peer peer(int number) {
        if (number < 0 || number >= peers.size()) {
            throw new IndexOutOfBoundsException();
        }
        return peers.get(number);
    }

    private static void argument(boolean good) {
        if (!good) {
            throw new IllegalArgumentException();
        }
    }

    private static void state(boolean good) {
        if (!good) {
            throw new IllegalStateException();
        }
    }

    private static void index(boolean good) {
        if (!good) {
            throw new IndexOutOfBoundsException();
        }
    }

    private static void element(boolean good) {
        if (!good) {
            throw new NoSuchElementException();
        }
    }

    private static boolean in(int number, int least, int most) {
        return least <= number && number <= most;
    }

    public int addScript() {
        state(scripts.size() < 4 && !started());
        scripts.add(new ArrayList<>());
        return scripts.size() - 1;
    }

    public int addOperation(int script, char kind, int a, int b) {
        index(in(script, 0, scripts.size() - 1));
        argument("wtvagfre".indexOf(kind) >= 0);
        argument(kind != 'w' || in(a, 1, 99));
        argument(kind != 'v' && kind != 'a' || in(a, -48, 48) && in(b, -48, 48));
        argument(kind != 'g' || in(a, 0, 11));
        argument(kind != 'r' || in(a, 1, 20));
        state(scripts.get(script).size() < 12 && !started());
        scripts.get(script).add(new Operation(kind, a, b));
        return scripts.get(script).size() - 1;
    }

    public int addBox(int kind, int x, int y, int half, int hits, int owner, int script) {
        argument(kind == 0 || kind == 1 || kind == 3);
        argument((long) x - half >= 0 && (long) y - half >= 0);
        argument((long) x + half <= 4095 && (long) y + half <= 4095);
        argument(in(half, 2, 255) && in(hits, 1, 9) && (kind != 0 || in(owner, 0, 2)));
        index(in(script, -1, scripts.size() - 1));
        state(!started());
        Box box = new Box();
        box.set(F.KIND, kind);
        box.set(F.X, x);
        box.set(F.Y, y);
        box.set(F.HALF, half);
        box.set(F.HITS, hits);
        box.set(F.OWNER, kind == 0 ? owner : -1);
        box.set(F.SCRIPT, script);
        int place = built.place(box);
        state(place >= 0);
        return place;
    }

    public int push(int place, int vx, int vy) {
        element(in(place, 0, 15) && built.places[place] != null);
        argument(in(vx, -48, 48) && in(vy, -48, 48));
        state(!started());
        Box box = built.places[place];
        int before = 64 * box.get(F.VX) + box.get(F.VY);
        box.set(F.VX, vx);
        box.set(F.VY, vy);
        return before;
    }

    public int start(int players) {
        argument(in(players, 1, 3));
        state(!started());
        for (int i = 0; i < players; i++) {
            Peer peer = new Peer();
            peer.number = i;
            peer.heard = new int[players];
            for (int j = 0; j < players; j++) {
                peer.known.add(new ArrayList<>());
            }
            peers.add(peer);
        }
        pressed = new int[players];
        delays = new int[players][players];
        losses = new int[players][players];
        for (int[] row : delays) {
            Arrays.fill(row, 1);
        }
        return built.hash();
    }

    public int press(int player, int input) {
        peer(player);
        argument(in(input, 0, 31));
        int before = pressed[player];
        pressed[player] = input;
        return before;
    }

    public int setDelay(int peer, int to, int delay) {
        peer(peer);
        peer(to);
        argument(peer != to && in(delay, 1, 9));
        int before = delays[peer][to];
        delays[peer][to] = delay;
        return before;
    }

    public int lose(int peer, int to, int many) {
        peer(peer);
        peer(to);
        argument(peer != to && in(many, 0, 50));
        int before = losses[peer][to];
        losses[peer][to] = many;
        return before;
    }

    public int tick(int ticks) {
        state(started());
        argument(in(ticks, 1, 20) && now + ticks <= 400);
        for (int i = 0; i < ticks; i++) {
            now++;
            for (Peer peer : peers) {
                turn(peer);
            }
        }
        return now;
    }

    public int done(int peer) {
        return peer(peer).worlds.size();
    }

    public int owed(int peer) {
        return peer(peer).owed;
    }

    public int confirmed(int peer) {
        return confirmedOf(peer(peer));
    }

    public int known(int peer, int player) {
        Peer own = peer(peer);
        peer(player);
        return own.known.get(player).size();
    }

    public int stalls(int peer) {
        return peer(peer).stalls;
    }

    public int takenBack(int peer) {
        return peer(peer).back;
    }

    public int flying() {
        int count = 0;
        for (Packet packet : packets) {
            if (packet.arrives > now) {
                count++;
            }
        }
        return count;
    }

    public int field(int peer, int place, int field) {
        World world = worldOf(peer(peer));
        element(in(place, 0, 15) && world.places[place] != null);
        argument(in(field, 0, 14));
        return world.places[place].fields[field];
    }

    public int boxes(int peer) {
        int count = 0;
        for (Box box : worldOf(peer(peer)).places) {
            count += box == null ? 0 : 1;
        }
        return count;
    }

    public int hash(int peer, int step) {
        Peer own = peer(peer);
        element(in(step, 0, own.worlds.size() - 1));
        return own.worlds.get(step).hash();
    }

    private boolean allMade(int step) {
        for (Peer peer : peers) {
            if (step < 0 || step >= peer.known.get(peer.number).size()) {
                return false;
            }
        }
        return true;
    }

    private int lone(int until, int changed, int player, int input) {
        World world = built;
        for (int i = 0; i <= until; i++) {
            int[] inputs = new int[peers.size()];
            for (Peer peer : peers) {
                inputs[peer.number] = peer.known.get(peer.number).get(i);
            }
            if (i == changed) {
                inputs[player] = input;
            }
            world = step(world, inputs, new TreeSet<>());
        }
        return world.hash();
    }

    public int loneHash(int step) {
        state(started());
        element(allMade(step));
        return lone(step, -1, 0, 0);
    }

    public int hashWith(int step, int player, int input, int until) {
        state(started());
        argument(in(player, 0, peers.size() - 1) && in(input, 0, 31) && until >= step);
        element(step >= 0 && allMade(until));
        return lone(until, step, player, input);
    }

    public int cheat(int peer, int place, int field, int value) {
        Peer own = peer(peer);
        World world = worldOf(own);
        element(in(place, 0, 15) && world.places[place] != null);
        element(!own.worlds.isEmpty());
        argument(in(field, 2, 7) && in(value, 0, 48));
        int before = world.places[place].fields[field];
        world.places[place].fields[field] = value;
        own.cheated = true;
        return before;
    }

    public int shown(int peer) {
        return peer(peer).shownCount;
    }

    public int cancelled(int peer) {
        return peer(peer).cancelledCount;
    }

    private TreeSet<Effect> shownAt(int peer, int step) {
        TreeSet<Effect> effects = peer(peer).shown.get(step);
        element(effects != null);
        return effects;
    }

    public int effects(int peer, int step) {
        return shownAt(peer, step).size();
    }

    public int effectAt(int peer, int step, int index) {
        List<Effect> effects = new ArrayList<>(shownAt(peer, step));
        element(in(index, 0, effects.size() - 1));
        Effect effect = effects.get(index);
        return 1000 * effect.kind + 20 * effect.first + effect.second;
    }

    private int[] firstDifference(int peer, int other) {
        Peer one = peer(peer);
        Peer two = peer(other);
        for (int i = 0; i < confirmedOf(one) && i < confirmedOf(two); i++) {
            World left = one.worlds.get(i);
            World right = two.worlds.get(i);
            for (int place = 0; place < 16; place++) {
                Box a = left.places[place];
                Box b = right.places[place];
                if ((a == null) != (b == null)) {
                    return new int[] {i, place, -1};
                }
                for (int field = 0; a != null && field < 15; field++) {
                    if (a.fields[field] != b.fields[field]) {
                        return new int[] {i, place, field};
                    }
                }
            }
            if (left.seed != right.seed) {
                return new int[] {i, 16, -1};
            }
        }
        throw new NoSuchElementException();
    }

    public int difference(int peer, int other) {
        return firstDifference(peer, other)[0];
    }

    public int differentPlace(int peer, int other) {
        return firstDifference(peer, other)[1];
    }

    public int differentField(int peer, int other) {
        return firstDifference(peer, other)[2];
    }

    public long steps() {
        return allSteps;
    }

    public float waste() {
        element(allSteps > 0);
        long back = 0;
        for (Peer peer : peers) {
            back += peer.back;
        }
        return (float) back / (float) allSteps;
    }

    public boolean isSound() {
        for (Peer peer : peers) {
            int confirmed = peer.cheated ? 0 : confirmedOf(peer);
            World world = built;
            for (int i = 0; i < confirmed; i++) {
                int[] inputs = new int[peers.size()];
                for (Peer maker : peers) {
                    inputs[maker.number] = maker.known.get(maker.number).get(i);
                }
                world = step(world, inputs, new TreeSet<>());
                if (world.hash() != peer.worlds.get(i).hash()) {
                    return false;
                }
            }
        }
        return true;
    }
}
