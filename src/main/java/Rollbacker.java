import java.util.Arrays;
import java.util.NoSuchElementException;

/** An engine for games that are played apart: see README.md. */
public final class Rollbacker {
    private static final int PLACES = 16;
    private static final int COUPLES = PLACES * (PLACES - 1) / 2;

    // The fields of a box; y follows x, and vy follows vx, so that an axis is added to them.
    private static final int FIELDS = 15;
    private static final int GENERATION = 0;
    private static final int KIND = 1;
    private static final int X = 2;
    private static final int Y = 3;
    private static final int VX = 4;
    private static final int VY = 5;
    private static final int HALF = 6;
    private static final int HITS = 7;
    private static final int OWNER = 8;
    private static final int TIMER = 9;
    private static final int FACING = 10;
    private static final int SCRIPT = 11;
    private static final int NEXT = 12;
    private static final int WAIT = 13;
    private static final int TOUCHED = 14;

    private static final int RUNNER = 0;
    private static final int BALL = 1;
    private static final int SHOT = 2;
    private static final int WALL = 3;
    private static final int NONE = -1;

    private static final int EDGE = 4095;
    private static final int LEAST_HALF = 2;
    private static final int MOST_HALF = 255;
    private static final int MOST_HITS = 9;
    private static final int TOP_SPEED = 48;
    private static final int PULL = 4;
    private static final int SHOT_SPEED = 32;
    private static final int SHOT_HALF = 2;
    private static final int SHOT_TIME = 20;
    private static final int RELOAD = 8;

    private static final int MOST_SCRIPTS = 4;
    private static final int MOST_OPERATIONS = 12;
    private static final int OPERATIONS_IN_STEP = 8;
    // Each box may fire once by its input and as often as its script does operations.
    private static final int MOST_FIRED = PLACES * (1 + OPERATIONS_IN_STEP);

    private static final int LEFT = 1;
    private static final int RIGHT = 2;
    private static final int UP = 4;
    private static final int DOWN = 8;
    private static final int FIRE = 16;
    private static final int MOST_INPUT = 31;
    private static final int INPUT_BITS = 5;
    private static final int[] FACING_X = {1, 0, -1, 0};
    private static final int[] FACING_Y = {0, 1, 0, -1};

    private static final int RUNNER_HIT = 1;
    private static final int OTHER_HIT = 2;
    private static final int WALL_MET = 3;
    private static final int BOXES_MET = 4;
    private static final int EFFECT_KINDS = 4;

    private static final int MOST_PLAYERS = 3;
    private static final int MOST_STEPS = 150;
    private static final int MOST_UNCONFIRMED = 10;
    private static final int BUDGET = 8;
    private static final int MOST_TICKS = 400;
    private static final int MOST_TICKS_A_CALL = 20;
    private static final int MOST_DELAY = 9;
    private static final int MOST_LOST = 50;
    // A packet is taken within MOST_DELAY ticks, so that the slots of a link can be used in turn.
    private static final int SLOTS = MOST_DELAY + 1;

    private static final int FIRST_CHEATED = X;
    private static final int LAST_CHEATED = HITS;
    private static final int MOST_CHEATED = 48;

    // All that a run needs is made here, once: no call makes anything but the exception that it throws.
    private final Game game = Game.make();

    /** Creates a game that is not started, with an empty world. */
    public Rollbacker() {
    }

    // ---- building

    public int addScript() throws IllegalStateException {
        if (game.isStarted() || game.scripts.count >= MOST_SCRIPTS) {
            throw new IllegalStateException();
        }
        return game.scripts.begin();
    }

    public int addOperation(int script, char kind, int a, int b)
            throws IndexOutOfBoundsException, IllegalArgumentException, IllegalStateException {
        if (!game.scripts.isScript(script)) {
            throw new IndexOutOfBoundsException();
        }
        if (!isOperation(kind, a, b)) {
            throw new IllegalArgumentException();
        }
        if (game.isStarted() || game.scripts.lengthOf(script) >= MOST_OPERATIONS) {
            throw new IllegalStateException();
        }
        return game.scripts.append(script, kind, a, b);
    }

    public int addBox(int kind, int x, int y, int half, int hits, int owner, int script)
            throws IllegalArgumentException, IndexOutOfBoundsException, IllegalStateException {
        boolean known = kind == RUNNER || kind == BALL || kind == WALL;
        if (!known || !isWithin(half, LEAST_HALF, MOST_HALF) || !isWithin(hits, 1, MOST_HITS)
                || !isWithin(x, half, EDGE - half) || !isWithin(y, half, EDGE - half)) {
            throw new IllegalArgumentException();
        }
        if (kind == RUNNER && !isWithin(owner, 0, MOST_PLAYERS - 1)) {
            throw new IllegalArgumentException();
        }
        if (script != NONE && !game.scripts.isScript(script)) {
            throw new IndexOutOfBoundsException();
        }
        int place = game.built.lowestEmpty();
        if (game.isStarted() || place == NONE) {
            throw new IllegalStateException();
        }
        game.built.put(place, kind, x, y, half, hits, kind == RUNNER ? owner : NONE);
        game.built.write(place, SCRIPT, script);
        return place;
    }

    public int push(int place, int vx, int vy)
            throws NoSuchElementException, IllegalArgumentException, IllegalStateException {
        if (!game.built.isBox(place)) {
            throw new NoSuchElementException();
        }
        if (!isSpeed(vx) || !isSpeed(vy)) {
            throw new IllegalArgumentException();
        }
        if (game.isStarted()) {
            throw new IllegalStateException();
        }
        int before = 64 * game.built.read(place, VX) + game.built.read(place, VY);
        game.built.write(place, VX, vx);
        game.built.write(place, VY, vy);
        return before;
    }

    public int start(int players) throws IllegalArgumentException, IllegalStateException {
        if (!isWithin(players, 1, MOST_PLAYERS)) {
            throw new IllegalArgumentException();
        }
        if (game.isStarted()) {
            throw new IllegalStateException();
        }
        game.begin(players);
        return game.built.digest();
    }

    // ---- links and inputs

    public int press(int player, int input) throws IndexOutOfBoundsException, IllegalArgumentException {
        Peer own = peerAt(player);
        if (!isWithin(input, 0, MOST_INPUT)) {
            throw new IllegalArgumentException();
        }
        int before = own.pressed;
        own.pressed = input;
        return before;
    }

    public int setDelay(int peer, int to, int delay) throws IndexOutOfBoundsException, IllegalArgumentException {
        Link link = linkAt(peer, to);
        if (peer == to || !isWithin(delay, 1, MOST_DELAY)) {
            throw new IllegalArgumentException();
        }
        int before = link.delay;
        link.delay = delay;
        return before;
    }

    public int lose(int peer, int to, int many) throws IndexOutOfBoundsException, IllegalArgumentException {
        Link link = linkAt(peer, to);
        if (peer == to || !isWithin(many, 0, MOST_LOST)) {
            throw new IllegalArgumentException();
        }
        int before = link.toLose;
        link.toLose = many;
        return before;
    }

    public int tick(int ticks) throws IllegalStateException, IllegalArgumentException {
        if (!game.isStarted()) {
            throw new IllegalStateException();
        }
        if (!isWithin(ticks, 1, MOST_TICKS_A_CALL) || game.now + ticks > MOST_TICKS) {
            throw new IllegalArgumentException();
        }
        for (int i = 0; i < ticks; i++) {
            game.now++;
            for (int number = 0; number < game.players; number++) {
                game.takeTurn(game.peers[number]);
            }
        }
        return game.now;
    }

    // ---- peers

    public int done(int peer) throws IndexOutOfBoundsException {
        return peerAt(peer).finished;
    }

    public int owed(int peer) throws IndexOutOfBoundsException {
        return peerAt(peer).debt();
    }

    public int confirmed(int peer) throws IndexOutOfBoundsException {
        return peerAt(peer).sureSteps();
    }

    public int known(int peer, int player) throws IndexOutOfBoundsException {
        Peer own = peerAt(peer);
        if (!game.isPeer(player)) {
            throw new IndexOutOfBoundsException();
        }
        return own.knows[player];
    }

    public int stalls(int peer) throws IndexOutOfBoundsException {
        return peerAt(peer).stalled;
    }

    public int takenBack(int peer) throws IndexOutOfBoundsException {
        return peerAt(peer).undone;
    }

    public int flying() {
        return game.packetsUnderWay();
    }

    // ---- worlds

    public int field(int peer, int place, int field)
            throws IndexOutOfBoundsException, NoSuchElementException, IllegalArgumentException {
        World world = peerAt(peer).present();
        if (!world.isBox(place)) {
            throw new NoSuchElementException();
        }
        if (!isWithin(field, 0, FIELDS - 1)) {
            throw new IllegalArgumentException();
        }
        return world.read(place, field);
    }

    public int boxes(int peer) throws IndexOutOfBoundsException {
        return peerAt(peer).present().countBoxes();
    }

    public int hash(int peer, int step) throws IndexOutOfBoundsException, NoSuchElementException {
        Peer own = peerAt(peer);
        if (!isWithin(step, 0, own.finished - 1)) {
            throw new NoSuchElementException();
        }
        return own.worldBehind(step).digest();
    }

    public int loneHash(int step) throws IllegalStateException, NoSuchElementException {
        if (!game.isStarted()) {
            throw new IllegalStateException();
        }
        if (!isWithin(step, 0, game.stepsWithAllInputs() - 1)) {
            throw new NoSuchElementException();
        }
        return game.lone.worldBehind(step).digest();
    }

    public int hashWith(int step, int player, int input, int until)
            throws IllegalStateException, IllegalArgumentException, NoSuchElementException {
        if (!game.isStarted()) {
            throw new IllegalStateException();
        }
        if (!game.isPeer(player) || !isWithin(input, 0, MOST_INPUT) || until < step) {
            throw new IllegalArgumentException();
        }
        if (step < 0 || until >= game.stepsWithAllInputs()) {
            throw new NoSuchElementException();
        }
        return game.lone.tryOut(step, player, input, until).digest();
    }

    public int cheat(int peer, int place, int field, int value)
            throws IndexOutOfBoundsException, NoSuchElementException, IllegalArgumentException {
        Peer own = peerAt(peer);
        World world = own.present();
        if (own.finished == 0 || !world.isBox(place)) {
            throw new NoSuchElementException();
        }
        if (!isWithin(field, FIRST_CHEATED, LAST_CHEATED) || !isWithin(value, 0, MOST_CHEATED)) {
            throw new IllegalArgumentException();
        }
        int before = world.read(place, field);
        world.write(place, field, value);
        own.cheated = true;
        return before;
    }

    // ---- effects

    public int shown(int peer) throws IndexOutOfBoundsException {
        return peerAt(peer).shownInAll;
    }

    public int cancelled(int peer) throws IndexOutOfBoundsException {
        return peerAt(peer).cancelledInAll;
    }

    public int effects(int peer, int step) throws IndexOutOfBoundsException, NoSuchElementException {
        return momentAt(peer, step).countShown();
    }

    public int effectAt(int peer, int step, int index) throws IndexOutOfBoundsException, NoSuchElementException {
        int effect = momentAt(peer, step).shownAt(index);
        if (effect == NONE) {
            throw new NoSuchElementException();
        }
        return effect;
    }

    // ---- differences

    public int difference(int peer, int other) throws IndexOutOfBoundsException, NoSuchElementException {
        return differentStep(peerAt(peer), peerAt(other));
    }

    public int differentPlace(int peer, int other) throws IndexOutOfBoundsException, NoSuchElementException {
        Peer one = peerAt(peer);
        Peer two = peerAt(other);
        int step = differentStep(one, two);
        return one.worldBehind(step).firstOtherPlace(two.worldBehind(step));
    }

    public int differentField(int peer, int other) throws IndexOutOfBoundsException, NoSuchElementException {
        Peer one = peerAt(peer);
        Peer two = peerAt(other);
        int step = differentStep(one, two);
        World world = one.worldBehind(step);
        World second = two.worldBehind(step);
        return world.firstOtherField(second, world.firstOtherPlace(second));
    }

    public long steps() {
        return game.stepsInAll();
    }

    public float waste() throws NoSuchElementException {
        long all = game.stepsInAll();
        if (all <= 0L) {
            throw new NoSuchElementException();
        }
        return (float) game.stepsUndone() / (float) all;
    }

    public boolean isSound() {
        return game.agreesWithLone();
    }

    // ---- what the face asks for

    private static boolean isWithin(int number, int least, int most) {
        return number >= least && number <= most;
    }

    private static boolean isSpeed(int speed) {
        return isWithin(speed, -TOP_SPEED, TOP_SPEED);
    }

    private static boolean isOperation(int kind, int a, int b) {
        switch (kind) {
            case 'w':
                return isWithin(a, 1, 99);
            case 'v':
            case 'a':
                return isSpeed(a) && isSpeed(b);
            case 'g':
                return isWithin(a, 0, MOST_OPERATIONS - 1);
            case 'r':
                return isWithin(a, 1, 20);
            case 't':
            case 'f':
            case 'e':
                return true;
            default:
                return false;
        }
    }

    private Peer peerAt(int number) throws IndexOutOfBoundsException {
        if (!game.isPeer(number)) {
            throw new IndexOutOfBoundsException();
        }
        return game.peers[number];
    }

    private Link linkAt(int from, int to) throws IndexOutOfBoundsException {
        if (!game.isPeer(from) || !game.isPeer(to)) {
            throw new IndexOutOfBoundsException();
        }
        return game.linkOf(from, to);
    }

    private Moment momentAt(int peer, int step) throws IndexOutOfBoundsException, NoSuchElementException {
        Peer own = peerAt(peer);
        if (!isWithin(step, 0, own.made - 1)) {
            throw new NoSuchElementException();
        }
        return own.moments[step];
    }

    private static int differentStep(Peer one, Peer two) throws NoSuchElementException {
        int both = Math.min(one.sureSteps(), two.sureSteps());
        for (int step = 0; step < both; step++) {
            if (one.worldBehind(step).firstOtherPlace(two.worldBehind(step)) != NONE) {
                return step;
            }
        }
        throw new NoSuchElementException();
    }

    /** A player's part of the inputs of a step, which lie side by side in one number. */
    private static int inputOf(int inputs, int player) {
        return (inputs >> (INPUT_BITS * player)) & MOST_INPUT;
    }

    private static int asInputOf(int player, int input) {
        return input << (INPUT_BITS * player);
    }

    /** The scripts: their operations lie in rows of MOST_OPERATIONS. */
    private static final class Scripts {
        final int[] lengths = new int[MOST_SCRIPTS];
        final int[] kinds = new int[MOST_SCRIPTS * MOST_OPERATIONS];
        final int[] firsts = new int[MOST_SCRIPTS * MOST_OPERATIONS];
        final int[] seconds = new int[MOST_SCRIPTS * MOST_OPERATIONS];
        int count;

        boolean isScript(int script) {
            return script >= 0 && script < count;
        }

        int lengthOf(int script) {
            return isScript(script) ? lengths[script] : 0;
        }

        int begin() {
            return count++;
        }

        int append(int script, int kind, int a, int b) {
            int place = lengths[script]++;
            int at = script * MOST_OPERATIONS + place;
            kinds[at] = kind;
            firsts[at] = a;
            seconds[at] = b;
            return place;
        }
    }

    /** A world: an empty place has the kind NONE and keeps the generation of the last box there. */
    private static final class World {
        final int[] cells = new int[PLACES * FIELDS];
        int seed = 1;

        World() {
            for (int place = 0; place < PLACES; place++) {
                cells[place * FIELDS + KIND] = NONE;
            }
        }

        boolean isBox(int place) {
            return place >= 0 && place < PLACES && cells[place * FIELDS + KIND] != NONE;
        }

        int read(int place, int field) {
            return cells[place * FIELDS + field];
        }

        void write(int place, int field, int value) {
            cells[place * FIELDS + field] = value;
        }

        void copyFrom(World other) {
            System.arraycopy(other.cells, 0, cells, 0, cells.length);
            seed = other.seed;
        }

        int lowestEmpty() {
            for (int place = 0; place < PLACES; place++) {
                if (!isBox(place)) {
                    return place;
                }
            }
            return NONE;
        }

        int countBoxes() {
            int count = 0;
            for (int place = 0; place < PLACES; place++) {
                if (isBox(place)) {
                    count++;
                }
            }
            return count;
        }

        /** Puts a box without a speed and a script. */
        void put(int place, int kind, int x, int y, int half, int hits, int owner) {
            int at = place * FIELDS;
            int generation = cells[at + GENERATION] + 1;
            Arrays.fill(cells, at, at + FIELDS, 0);
            cells[at + GENERATION] = generation;
            cells[at + KIND] = kind;
            cells[at + X] = x;
            cells[at + Y] = y;
            cells[at + HALF] = half;
            cells[at + HITS] = hits;
            cells[at + OWNER] = owner;
            cells[at + SCRIPT] = NONE;
        }

        int nextRandom() {
            seed = 1103515245 * seed + 12345;
            return (seed >> 16) & 0x7fff;
        }

        int digest() {
            int sum = 17;
            for (int place = 0; place < PLACES; place++) {
                if (isBox(place)) {
                    sum = 31 * sum + place;
                    for (int field = 0; field < FIELDS; field++) {
                        sum = 31 * sum + cells[place * FIELDS + field];
                    }
                }
            }
            return 31 * sum + seed;
        }

        /** The lowest place whose boxes differ, PLACES if the seeds alone do, NONE if nothing does. */
        int firstOtherPlace(World other) {
            for (int place = 0; place < PLACES; place++) {
                if (isBox(place) != other.isBox(place) || firstOtherField(other, place) != NONE) {
                    return place;
                }
            }
            return seed == other.seed ? NONE : PLACES;
        }

        /** The lowest field that differs, or NONE, which it is too if not both have a box at the place. */
        int firstOtherField(World other, int place) {
            if (!isBox(place) || !other.isBox(place)) {
                return NONE;
            }
            for (int field = 0; field < FIELDS; field++) {
                if (read(place, field) != other.read(place, field)) {
                    return field;
                }
            }
            return NONE;
        }
    }

    /** Does a step on a world in place; what it needs meanwhile is made once. */
    private static final class Stepper {
        private final Scripts scripts;
        private final boolean[] destroyed = new boolean[PLACES];
        private final int[] couples = new int[COUPLES];
        private final int[] firedBy = new int[MOST_FIRED];
        private final int[] firedFacing = new int[MOST_FIRED];
        private final int[] firedX = new int[MOST_FIRED];
        private final int[] firedY = new int[MOST_FIRED];
        private int fired;
        // Of the step that is done; at first of none.
        private World world = new World();
        private int[] cells = world.cells;
        private long[] came = new long[PLACES];

        Stepper(Scripts scripts) {
            this.scripts = scripts;
        }

        /** Each effect that comes becomes a bit in the row of its first place. */
        void run(World into, int inputs, long[] effects) {
            world = into;
            cells = into.cells;
            came = effects;
            fired = 0;
            Arrays.fill(came, 0L);
            for (int place = 0; place < PLACES; place++) {
                destroyed[place] = false;
                if (isActing(place) && kindOf(place) == RUNNER) {
                    steer(place, inputOf(inputs, cells[place * FIELDS + OWNER]));
                }
            }
            for (int place = 0; place < PLACES; place++) {
                if (isActing(place)) {
                    followScript(place);
                }
            }
            for (int place = 0; place < PLACES; place++) {
                cells[place * FIELDS + TOUCHED] = 0;
                if (isActing(place) && kindOf(place) != WALL) {
                    moveAlong(place, 0);
                    moveAlong(place, 1);
                }
            }
            int found = findCouples();
            for (int i = 0; i < found; i++) {
                meet(couples[i] / PLACES, couples[i] % PLACES);
            }
            endTimers();
            putFired();
        }

        private boolean isActing(int place) {
            return cells[place * FIELDS + KIND] != NONE && !destroyed[place];
        }

        private int kindOf(int place) {
            return cells[place * FIELDS + KIND];
        }

        private void steer(int place, int input) {
            int at = place * FIELDS;
            if (cells[at + TIMER] > 0) {
                cells[at + TIMER]--;
            }
            pull(at + VX, input & RIGHT, input & LEFT);
            pull(at + VY, input & DOWN, input & UP);
            int direction = input & (LEFT | RIGHT | UP | DOWN);
            if (direction == RIGHT) {
                cells[at + FACING] = 0;
            } else if (direction == DOWN) {
                cells[at + FACING] = 1;
            } else if (direction == LEFT) {
                cells[at + FACING] = 2;
            } else if (direction == UP) {
                cells[at + FACING] = 3;
            }
            if ((input & FIRE) != 0 && cells[at + TIMER] == 0) {
                fire(place);
                cells[at + TIMER] = RELOAD;
            }
        }

        private void pull(int speedAt, int more, int less) {
            int speed = cells[speedAt] + (more != 0 ? PULL : 0) - (less != 0 ? PULL : 0);
            cells[speedAt] = Math.max(-TOP_SPEED, Math.min(TOP_SPEED, speed));
        }

        private void fire(int place) {
            if (fired < MOST_FIRED) {
                firedBy[fired] = place;
                firedFacing[fired] = cells[place * FIELDS + FACING];
                fired++;
            }
        }

        private void followScript(int place) {
            int at = place * FIELDS;
            int script = cells[at + SCRIPT];
            if (script == NONE) {
                return;
            }
            int length = scripts.lengthOf(script);
            for (int count = 0; count <= OPERATIONS_IN_STEP; count++) {
                int next = cells[at + NEXT];
                if (next >= length) {
                    cells[at + SCRIPT] = NONE;
                    return;
                }
                if (cells[at + WAIT] > 0) {
                    cells[at + WAIT]--;
                    return;
                }
                if (count == OPERATIONS_IN_STEP) {
                    cells[at + SCRIPT] = NONE;
                    return;
                }
                if (!operate(place, script * MOST_OPERATIONS + next)) {
                    return;
                }
            }
        }

        /** Tells whether the box goes on with its script in this step. */
        private boolean operate(int place, int operation) {
            int at = place * FIELDS;
            int kind = scripts.kinds[operation];
            int a = scripts.firsts[operation];
            int b = scripts.seconds[operation];
            if (kind == 't' && cells[at + TOUCHED] == 0) {
                return false;
            }
            cells[at + NEXT]++;
            switch (kind) {
                case 'w':
                    cells[at + WAIT] = a;
                    break;
                case 'v':
                    cells[at + VX] = a;
                    cells[at + VY] = b;
                    break;
                case 'a':
                    cells[at + VX] += a;
                    cells[at + VY] += b;
                    break;
                case 'g':
                    cells[at + NEXT] = a;
                    break;
                case 'f':
                    fire(place);
                    break;
                case 'r':
                    cells[at + VX] += Math.floorMod(world.nextRandom(), Math.max(1, 2 * a + 1)) - a;
                    break;
                case 'e':
                    destroyed[place] = true;
                    return false;
                default:
                    break;
            }
            return true;
        }

        private void moveAlong(int place, int axis) {
            int at = place * FIELDS;
            int position = at + X + axis;
            int speed = at + VX + axis;
            int half = cells[at + HALF];
            cells[position] += cells[speed];
            if (cells[at + KIND] == RUNNER) {
                cells[speed] -= cells[speed] / 8;
            }
            if (cells[position] - half >= 0 && cells[position] + half <= EDGE) {
                return;
            }
            cells[position] = cells[position] - half < 0 ? half : EDGE - half;
            cells[speed] = thrownBack(cells[speed]);
            if (cells[at + KIND] == SHOT) {
                destroyed[place] = true;
            }
        }

        private static int thrownBack(int speed) {
            return -3 * speed / 4;
        }

        private int findCouples() {
            int found = 0;
            for (int first = 0; first < PLACES; first++) {
                if (!isActing(first)) {
                    continue;
                }
                for (int second = first + 1; second < PLACES; second++) {
                    if (isActing(second) && gap(first, second, 0) < 0 && gap(first, second, 1) < 0) {
                        couples[found] = first * PLACES + second;
                        found++;
                    }
                }
            }
            return found;
        }

        private int gap(int first, int second, int axis) {
            int one = first * FIELDS;
            int two = second * FIELDS;
            int apart = Math.abs(cells[one + X + axis] - cells[two + X + axis]);
            return apart - cells[one + HALF] - cells[two + HALF];
        }

        private void meet(int first, int second) {
            if (destroyed[first] || destroyed[second] || isIdle(first, second)) {
                return;
            }
            cells[first * FIELDS + TOUCHED] = 1;
            cells[second * FIELDS + TOUCHED] = 1;
            int effect;
            if (kindOf(first) == SHOT) {
                effect = hit(first, second);
            } else if (kindOf(second) == SHOT) {
                effect = hit(second, first);
            } else {
                effect = collide(first, second);
            }
            // Rising bits of a first place's row are rising second places, and then kinds.
            came[first] |= 1L << (EFFECT_KINDS * second + effect - 1);
        }

        private boolean isIdle(int first, int second) {
            int one = kindOf(first);
            int two = kindOf(second);
            return one == WALL && two == WALL
                    || one == SHOT && two == SHOT
                    || one == SHOT && cells[first * FIELDS + OWNER] == second
                    || two == SHOT && cells[second * FIELDS + OWNER] == first;
        }

        private int hit(int shot, int target) {
            destroyed[shot] = true;
            if (kindOf(target) != RUNNER) {
                return OTHER_HIT;
            }
            int hitsAt = target * FIELDS + HITS;
            cells[hitsAt]--;
            if (cells[hitsAt] == 0) {
                destroyed[target] = true;
            }
            return RUNNER_HIT;
        }

        private int collide(int first, int second) {
            // Earlier couples may have moved them apart already.
            int depthX = Math.max(0, -gap(first, second, 0));
            int depthY = Math.max(0, -gap(first, second, 1));
            int axis = depthX <= depthY ? 0 : 1;
            int depth = Math.min(depthX, depthY);
            if (kindOf(first) == WALL) {
                leaveWall(second, first, axis, depth);
                return WALL_MET;
            }
            if (kindOf(second) == WALL) {
                leaveWall(first, second, axis, depth);
                return WALL_MET;
            }
            part(first * FIELDS, second * FIELDS, axis, depth);
            return BOXES_MET;
        }

        private void leaveWall(int other, int wall, int axis, int depth) {
            int position = other * FIELDS + X + axis;
            int speed = other * FIELDS + VX + axis;
            boolean above = cells[position] >= cells[wall * FIELDS + X + axis];
            cells[position] += above ? depth : -depth;
            if (above ? cells[speed] < 0 : cells[speed] > 0) {
                cells[speed] = thrownBack(cells[speed]);
            }
        }

        private void part(int first, int second, int axis, int depth) {
            boolean rising = cells[second + X + axis] >= cells[first + X + axis];
            int share = depth / 2;
            int rest = depth - share;
            cells[first + X + axis] += rising ? -share : share;
            cells[second + X + axis] += rising ? rest : -rest;
            int one = cells[first + VX + axis];
            int two = cells[second + VX + axis];
            if (rising ? one > two : two > one) {
                cells[first + VX + axis] = two;
                cells[second + VX + axis] = one;
            }
        }

        private void endTimers() {
            for (int place = 0; place < PLACES; place++) {
                if (isActing(place) && kindOf(place) == SHOT) {
                    cells[place * FIELDS + TIMER]--;
                    if (cells[place * FIELDS + TIMER] == 0) {
                        destroyed[place] = true;
                    }
                }
            }
        }

        private void putFired() {
            // A shot may take the place of the box that fired it, so all places are read first.
            for (int i = 0; i < fired; i++) {
                firedX[i] = cells[firedBy[i] * FIELDS + X];
                firedY[i] = cells[firedBy[i] * FIELDS + Y];
            }
            for (int place = 0; place < PLACES; place++) {
                if (destroyed[place]) {
                    cells[place * FIELDS + KIND] = NONE;
                }
            }
            for (int i = 0; i < fired; i++) {
                int place = world.lowestEmpty();
                if (place == NONE) {
                    return;
                }
                putShot(place, i);
            }
        }

        private void putShot(int place, int i) {
            int at = place * FIELDS;
            int facing = firedFacing[i] & 3;
            world.put(place, SHOT, firedX[i], firedY[i], SHOT_HALF, 1, firedBy[i]);
            cells[at + VX] = SHOT_SPEED * FACING_X[facing];
            cells[at + VY] = SHOT_SPEED * FACING_Y[facing];
            cells[at + TIMER] = SHOT_TIME;
            cells[at + FACING] = facing;
        }
    }

    /** A step of a peer; it tells nothing until the peer has made its input for this step. */
    private static final class Moment {
        final World world = new World();
        final long[] came = new long[PLACES];
        final long[] seen = new long[PLACES];
        int inputs;

        /** Shows what came and is not shown yet; returns how many effects these are. */
        int showNew() {
            int count = 0;
            for (int first = 0; first < PLACES; first++) {
                count += Long.bitCount(came[first] & ~seen[first]);
                seen[first] |= came[first];
            }
            return count;
        }

        /** Cancels what is shown and did not come; returns how many effects these are. */
        int cancelMissing() {
            int count = 0;
            for (int first = 0; first < PLACES; first++) {
                count += Long.bitCount(seen[first] & ~came[first]);
                seen[first] &= came[first];
            }
            return count;
        }

        int countShown() {
            int count = 0;
            for (int first = 0; first < PLACES; first++) {
                count += Long.bitCount(seen[first]);
            }
            return count;
        }

        /** The effect with the index as a number, or NONE. */
        int shownAt(int index) {
            int left = index;
            for (int first = 0; first < PLACES; first++) {
                for (int bit = 0; bit < PLACES * EFFECT_KINDS; bit++) {
                    if (((seen[first] >> bit) & 1L) == 0L) {
                        continue;
                    }
                    if (left == 0) {
                        return 1000 * (bit % EFFECT_KINDS + 1) + 20 * first + bit / EFFECT_KINDS;
                    }
                    left--;
                }
            }
            return NONE;
        }
    }

    /** A peer: it has made inputs for the first 'made' steps, and owes those of them behind 'finished'. */
    private static final class Peer {
        final int number;
        final World built;
        final Moment[] moments = new Moment[MOST_STEPS];
        final int[] inputs = new int[MOST_STEPS];
        final int[] knows = new int[MOST_PLAYERS];
        int players;
        int pressed;
        int made;
        int finished;
        int againFrom = MOST_STEPS;
        int stalled;
        int undone;
        int shownInAll;
        int cancelledInAll;
        boolean cheated;
        int agreed;

        Peer(int number, World built) {
            this.number = number;
            this.built = built;
            for (int step = 0; step < MOST_STEPS; step++) {
                moments[step] = new Moment();
            }
        }

        int debt() {
            return made - finished;
        }

        int sureSteps() {
            int sure = finished;
            for (int player = 0; player < players; player++) {
                sure = Math.min(sure, knows[player]);
            }
            return sure;
        }

        World worldBehind(int step) {
            return step >= 0 && step < finished ? moments[step].world : built;
        }

        World present() {
            return worldBehind(finished - 1);
        }

        void makeInput() {
            inputs[made] = pressed;
            made++;
            knows[number] = made;
        }

        void doStep(Stepper stepper, int stepInputs) {
            Moment moment = moments[finished];
            moment.inputs = stepInputs;
            moment.world.copyFrom(present());
            stepper.run(moment.world, stepInputs, moment.came);
            shownInAll += moment.showNew();
            finished++;
        }

        void goBackTo(int step) {
            undone += finished - step;
            finished = step;
            againFrom = Math.min(againFrom, step);
        }

        /** Effects are judged when no step is owed, as a step may be done again more than once till then. */
        void cancelOld() {
            for (int step = againFrom; step < finished; step++) {
                cancelledInAll += moments[step].cancelMissing();
            }
            againFrom = MOST_STEPS;
        }
    }

    /**
     * The way from a peer to another. The inputs of a peer never change, so a packet need only tell how many of
     * them it reaches, and packets that arrive at the same tick the greatest such number. Where a packet begins
     * makes no difference, as it never leaves out what its receiver does not know; so what the receiver has told
     * of that is not kept.
     */
    private static final class Link {
        final int[] packets = new int[SLOTS];
        final int[] reach = new int[SLOTS];
        int delay = 1;
        int toLose;

        void send(int now, int inputs) {
            if (toLose > 0) {
                toLose--;
                return;
            }
            int slot = (now + delay) % SLOTS;
            packets[slot]++;
            reach[slot] = Math.max(reach[slot], inputs);
        }

        void clear(int slot) {
            packets[slot] = 0;
            reach[slot] = 0;
        }
    }

    /** The lone run; its first 'finished' steps are kept, as the inputs for them never change. */
    private static final class LoneRun {
        final World built;
        final Peer[] peers;
        final Stepper stepper;
        final World[] worlds = new World[MOST_STEPS];
        final World trial = new World();
        final long[] unused = new long[PLACES];
        int finished;

        LoneRun(World built, Peer[] peers, Stepper stepper) {
            this.built = built;
            this.peers = peers;
            this.stepper = stepper;
            for (int step = 0; step < MOST_STEPS; step++) {
                worlds[step] = new World();
            }
        }

        /** A peer that takes no part has inputs, too, but never makes others than 0. */
        private int inputsFor(int step) {
            int inputs = 0;
            for (int player = 0; player < peers.length; player++) {
                inputs |= asInputOf(player, peers[player].inputs[step]);
            }
            return inputs;
        }

        /** All players must have made their inputs for the step. */
        World worldBehind(int step) {
            for (int next = finished; next <= step; next++) {
                World world = worlds[next];
                world.copyFrom(next == 0 ? built : worlds[next - 1]);
                stepper.run(world, inputsFor(next), unused);
                finished = next + 1;
            }
            return step < 0 ? built : worlds[step];
        }

        World tryOut(int step, int player, int input, int until) {
            trial.copyFrom(worldBehind(step - 1));
            int others = inputsFor(step) & ~asInputOf(player, MOST_INPUT);
            stepper.run(trial, others | asInputOf(player, input), unused);
            for (int later = step + 1; later <= until; later++) {
                stepper.run(trial, inputsFor(later), unused);
            }
            return trial;
        }
    }

    /** A game: as many of its peers take part as it has players, none until it is started. */
    private static final class Game {
        final Scripts scripts;
        final World built;
        final Peer[] peers;
        final Link[] links;
        final Stepper stepper;
        final LoneRun lone;
        int players;
        int now;

        Game(Scripts scripts, World built, Peer[] peers, Link[] links, Stepper stepper, LoneRun lone) {
            this.scripts = scripts;
            this.built = built;
            this.peers = peers;
            this.links = links;
            this.stepper = stepper;
            this.lone = lone;
        }

        static Game make() {
            Scripts scripts = new Scripts();
            World built = new World();
            Peer[] peers = new Peer[MOST_PLAYERS];
            for (int number = 0; number < peers.length; number++) {
                peers[number] = new Peer(number, built);
            }
            Link[] links = new Link[MOST_PLAYERS * MOST_PLAYERS];
            for (int i = 0; i < links.length; i++) {
                links[i] = new Link();
            }
            Stepper stepper = new Stepper(scripts);
            return new Game(scripts, built, peers, links, stepper, new LoneRun(built, peers, stepper));
        }

        void begin(int many) {
            players = many;
            for (int peer = 0; peer < players; peer++) {
                peers[peer].players = players;
            }
        }

        boolean isStarted() {
            return players > 0;
        }

        boolean isPeer(int number) {
            return number >= 0 && number < players;
        }

        Link linkOf(int from, int to) {
            return links[from * MOST_PLAYERS + to];
        }

        int packetsUnderWay() {
            int count = 0;
            for (int i = 0; i < links.length; i++) {
                for (int slot = 0; slot < SLOTS; slot++) {
                    count += links[i].packets[slot];
                }
            }
            return count;
        }

        int stepsWithAllInputs() {
            int least = MOST_STEPS;
            for (int player = 0; player < players; player++) {
                least = Math.min(least, peers[player].made);
            }
            return least;
        }

        long stepsUndone() {
            long sum = 0L;
            for (int number = 0; number < players; number++) {
                sum += peers[number].undone;
            }
            return sum;
        }

        long stepsInAll() {
            long sum = stepsUndone();
            for (int number = 0; number < players; number++) {
                sum += peers[number].finished;
            }
            return sum;
        }

        void takeTurn(Peer peer) {
            int sure = peer.sureSteps();
            takePackets(peer);
            int wrong = firstWrong(peer, sure);
            if (wrong < peer.finished) {
                peer.goBackTo(wrong);
            }
            int budget = BUDGET;
            while (budget > 0 && peer.debt() > 0) {
                peer.doStep(stepper, inputsFor(peer, peer.finished));
                budget--;
            }
            boolean even = peer.debt() == 0;
            if (even) {
                peer.cancelOld();
            }
            boolean near = peer.finished - peer.sureSteps() < MOST_UNCONFIRMED && peer.finished < MOST_STEPS;
            if (even && budget > 0 && near) {
                peer.makeInput();
                peer.doStep(stepper, inputsFor(peer, peer.finished));
            } else {
                peer.stalled++;
            }
            sendPackets(peer);
        }

        private void takePackets(Peer peer) {
            int slot = now % SLOTS;
            for (int from = 0; from < players; from++) {
                Link link = linkOf(from, peer.number);
                peer.knows[from] = Math.max(peer.knows[from], link.reach[slot]);
                link.clear(slot);
            }
        }

        private void sendPackets(Peer peer) {
            for (int to = 0; to < players; to++) {
                if (to != peer.number) {
                    linkOf(peer.number, to).send(now, peer.made);
                }
            }
        }

        /** The first step, from the one told on, that was done with another input than is known, or finished. */
        private int firstWrong(Peer peer, int from) {
            for (int step = from; step < peer.finished; step++) {
                for (int player = 0; player < players; player++) {
                    boolean isKnown = step < peer.knows[player];
                    if (isKnown && peers[player].inputs[step] != inputOf(peer.moments[step].inputs, player)) {
                        return step;
                    }
                }
            }
            return peer.finished;
        }

        private int inputsFor(Peer peer, int step) {
            int inputs = 0;
            for (int player = 0; player < players; player++) {
                int last = Math.min(step, peer.knows[player] - 1);
                if (last >= 0) {
                    inputs |= asInputOf(player, peers[player].inputs[last]);
                }
            }
            return inputs;
        }

        boolean agreesWithLone() {
            for (int number = 0; number < players; number++) {
                Peer peer = peers[number];
                int sure = peer.cheated ? 0 : peer.sureSteps();
                // Confirmed steps are never taken back, so that those that agreed need no second look.
                for (int step = peer.agreed; step < sure; step++) {
                    if (peer.worldBehind(step).digest() != lone.worldBehind(step).digest()) {
                        return false;
                    }
                    peer.agreed = step + 1;
                }
            }
            return true;
        }
    }
}
