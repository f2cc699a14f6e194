import java.util.NoSuchElementException;

/** The promises 1 to 33, a method for each: ordinary inputs, edges, wrong inputs. */
public final class PromiseTest {
    private static final Class<IllegalStateException> STATE = IllegalStateException.class;
    private static final Class<IllegalArgumentException> ARGUMENT = IllegalArgumentException.class;
    private static final Class<IndexOutOfBoundsException> INDEX = IndexOutOfBoundsException.class;
    private static final Class<NoSuchElementException> ELEMENT = NoSuchElementException.class;
    private static final int[] WILD = {Integer.MIN_VALUE, Integer.MIN_VALUE + 1, -1000, Integer.MAX_VALUE};

    public static void main(String[] args) {
        newObject();
        addScript();
        addOperation();
        addBox();
        push();
        start();
        press();
        setDelay();
        lose();
        tick();
        doneAndOwed();
        confirmedAndKnown();
        stalls();
        takenBack();
        flying();
        field();
        boxes();
        hash();
        loneHash();
        hashWith();
        cheat();
        shownAndCancelled();
        effects();
        effectAt();
        difference();
        differentPlaceAndField();
        stepsAndWaste();
        isSound();
        nothingChangesByExceptions();
        Check.end("PromiseTest");
    }

    private static int ball(Rollbacker x, int at) {
        return x.addBox(1, at, 1000, 10, 1, 0, -1);
    }

    private static int runner(Rollbacker x, int at, int player) {
        return x.addBox(0, at, 1000, 10, 3, player, -1);
    }

    /** A game with a runner of each player, far from one another. */
    private static Rollbacker started(int players) {
        Rollbacker x = new Rollbacker();
        for (int i = 0; i < players; i++) {
            runner(x, 500 + 1000 * i, i);
        }
        x.start(players);
        return x;
    }

    /** Two peers that know nothing of one another for 12 ticks, while player 1 holds right and fires. */
    private static Rollbacker apart() {
        Rollbacker x = started(2);
        x.lose(0, 1, 12);
        x.lose(1, 0, 12);
        x.press(1, 18);
        x.tick(12);
        return x;
    }

    private static int digest(int seed, int[]... boxes) {
        int sum = 17;
        for (int place = 0; place < boxes.length; place++) {
            sum = 31 * sum + place;
            for (int field : boxes[place]) {
                sum = 31 * sum + field;
            }
        }
        return 31 * sum + seed;
    }

    private static void newObject() {
        Rollbacker x = new Rollbacker();
        Check.fails("1 tick", () -> x.tick(1), STATE);
        Check.fails("1 done", () -> x.done(0), INDEX);
        Check.fails("1 push", () -> x.push(0, 0, 0), ELEMENT);
        Check.gives("1 flying", x::flying, 0);
        Check.gives("1 steps", x::steps, 0L);
        Check.gives("1 isSound", x::isSound, true);
        Check.gives("1 start with an empty world and the seed 1", () -> x.start(1), 17 * 31 + 1);
        Check.gives("1 boxes", () -> x.boxes(0), 0);
    }

    private static void addScript() {
        Rollbacker x = new Rollbacker();
        for (int i = 0; i < 4; i++) {
            int number = i;
            Check.fails("2 no script yet " + i, () -> x.addOperation(number, 'e', 0, 0), INDEX);
            Check.gives("2 addScript " + i, x::addScript, i);
            Check.gives("2 without operations", () -> x.addOperation(number, 'e', 0, 0), 0);
        }
        Check.fails("2 a fifth", x::addScript, STATE);
        Rollbacker y = started(1);
        Check.fails("2 started", y::addScript, STATE);
    }

    private static void addOperation() {
        Rollbacker x = new Rollbacker();
        x.addScript();
        x.addScript();
        for (int script : new int[] {-1, 2, Integer.MAX_VALUE, Integer.MIN_VALUE}) {
            Check.fails("3 script " + script, () -> x.addOperation(script, '?', 0, 0), INDEX);
        }
        for (char kind = 0; kind < 300; kind++) {
            if ("wtvagfre".indexOf(kind) < 0) {
                char wrong = kind;
                Check.fails("3 kind " + (int) kind, () -> x.addOperation(0, wrong, 1, 1), ARGUMENT);
            }
        }
        outOfRange(x, 'w', 0, 100);
        outOfRange(x, 'v', -49, 49);
        outOfRange(x, 'a', -49, 49);
        outOfRange(x, 'g', -1, 12);
        outOfRange(x, 'r', 0, 21);
        for (int b : new int[] {-49, 49, Integer.MIN_VALUE}) {
            Check.fails("3 v 0 " + b, () -> x.addOperation(0, 'v', 0, b), ARGUMENT);
            Check.fails("3 a 0 " + b, () -> x.addOperation(0, 'a', 0, b), ARGUMENT);
        }
        Check.gives("3 w 1", () -> x.addOperation(0, 'w', 1, 777), 0);
        Check.gives("3 w 99", () -> x.addOperation(0, 'w', 99, -777), 1);
        Check.gives("3 v", () -> x.addOperation(0, 'v', -48, 48), 2);
        Check.gives("3 v", () -> x.addOperation(0, 'v', 48, -48), 3);
        Check.gives("3 a", () -> x.addOperation(0, 'a', -48, 48), 4);
        Check.gives("3 a", () -> x.addOperation(0, 'a', 48, -48), 5);
        Check.gives("3 g 0", () -> x.addOperation(0, 'g', 0, 777), 6);
        Check.gives("3 g 11", () -> x.addOperation(0, 'g', 11, 777), 7);
        Check.gives("3 r 1", () -> x.addOperation(0, 'r', 1, 777), 8);
        Check.gives("3 r 20", () -> x.addOperation(0, 'r', 20, 777), 9);
        Check.gives("3 t has no numbers", () -> x.addOperation(0, 't', 777, -777), 10);
        Check.gives("3 another script", () -> x.addOperation(1, 'f', 777, 777), 0);
        Check.gives("3 the twelfth", () -> x.addOperation(0, 'e', -777, 777), 11);
        Check.fails("3 a thirteenth", () -> x.addOperation(0, 'e', 0, 0), STATE);
        Check.fails("3 argument ahead of state", () -> x.addOperation(0, 'w', 0, 0), ARGUMENT);
        x.start(1);
        Check.fails("3 started", () -> x.addOperation(1, 'e', 0, 0), STATE);
        Check.fails("3 started, index first", () -> x.addOperation(2, 'e', 0, 0), INDEX);
        Check.fails("3 started, argument first", () -> x.addOperation(1, 'x', 0, 0), ARGUMENT);
    }

    private static void outOfRange(Rollbacker x, char kind, int below, int above) {
        Check.fails("3 " + kind + below, () -> x.addOperation(0, kind, below, 0), ARGUMENT);
        Check.fails("3 " + kind + above, () -> x.addOperation(0, kind, above, 0), ARGUMENT);
        for (int wild : WILD) {
            Check.fails("3 " + kind + wild, () -> x.addOperation(0, kind, wild, 0), ARGUMENT);
        }
    }

    private static void addBox() {
        Rollbacker x = new Rollbacker();
        x.addScript();
        for (int kind : new int[] {-1, 2, 4, Integer.MAX_VALUE}) {
            Check.fails("4 kind " + kind, () -> x.addBox(kind, 100, 100, 10, 1, 0, -1), ARGUMENT);
        }
        for (int at : new int[] {-1, 9, 4086, 4095, Integer.MIN_VALUE, Integer.MIN_VALUE + 5, Integer.MAX_VALUE}) {
            Check.fails("4 x " + at, () -> x.addBox(1, at, 100, 10, 1, 0, -1), ARGUMENT);
            Check.fails("4 y " + at, () -> x.addBox(1, 100, at, 10, 1, 0, -1), ARGUMENT);
        }
        for (int half : new int[] {Integer.MIN_VALUE, -2, 0, 1, 256, Integer.MAX_VALUE}) {
            Check.fails("4 half " + half, () -> x.addBox(1, 1000, 1000, half, 1, 0, -1), ARGUMENT);
        }
        for (int hits : new int[] {Integer.MIN_VALUE, -1, 0, 10, Integer.MAX_VALUE}) {
            Check.fails("4 hits " + hits, () -> x.addBox(1, 1000, 1000, 10, hits, 0, -1), ARGUMENT);
        }
        for (int owner : new int[] {Integer.MIN_VALUE, -1, 3, Integer.MAX_VALUE}) {
            Check.fails("4 owner " + owner, () -> x.addBox(0, 1000, 1000, 10, 1, owner, -1), ARGUMENT);
        }
        for (int script : new int[] {Integer.MIN_VALUE, -2, 1, Integer.MAX_VALUE}) {
            Check.fails("4 script " + script, () -> x.addBox(1, 1000, 1000, 10, 1, 0, script), INDEX);
            Check.fails("4 argument first", () -> x.addBox(1, 1000, 1000, 1, 1, 0, script), ARGUMENT);
        }
        Check.gives("4 lowest edge", () -> x.addBox(1, 2, 2, 2, 1, -777, -1), 0);
        Check.gives("4 highest edge", () -> x.addBox(3, 3840, 3840, 255, 9, 777, 0), 1);
        Check.gives("4 a runner", () -> x.addBox(0, 10, 4085, 10, 5, 2, -1), 2);
        for (int place = 3; place < 16; place++) {
            Check.gives("4 place", () -> x.addBox(0, 1000, 1000, 10, 5, 0, -1), place);
        }
        Check.fails("4 a seventeenth", () -> x.addBox(0, 1000, 1000, 10, 5, 0, -1), STATE);
        Check.fails("4 index first", () -> x.addBox(0, 1000, 1000, 10, 5, 0, 1), INDEX);
        x.start(1);
        int[] low = {1, 1, 2, 2, 0, 0, 2, 1, -1, 0, 0, -1, 0, 0, 0};
        int[] high = {1, 3, 3840, 3840, 0, 0, 255, 9, -1, 0, 0, 0, 0, 0, 0};
        int[] runner = {1, 0, 10, 4085, 0, 0, 10, 5, 2, 0, 0, -1, 0, 0, 0};
        for (int i = 0; i < 15; i++) {
            int field = i;
            Check.gives("4 ball, field " + i, () -> x.field(0, 0, field), low[i]);
            Check.gives("4 wall, field " + i, () -> x.field(0, 1, field), high[i]);
            Check.gives("4 runner, field " + i, () -> x.field(0, 2, field), runner[i]);
        }
        Rollbacker y = started(1);
        Check.fails("4 started", () -> ball(y, 100), STATE);
        Check.fails("4 started, argument first", () -> y.addBox(2, 100, 100, 10, 1, 0, -1), ARGUMENT);
        Check.fails("4 started, index first", () -> y.addBox(1, 100, 100, 10, 1, 0, 0), INDEX);
    }

    private static void push() {
        Rollbacker x = new Rollbacker();
        ball(x, 100);
        for (int place : new int[] {-1, 1, 15, 16, Integer.MIN_VALUE, Integer.MAX_VALUE}) {
            Check.fails("5 place " + place, () -> x.push(place, 99, 0), ELEMENT);
        }
        for (int speed : new int[] {-49, 49, Integer.MIN_VALUE, Integer.MAX_VALUE}) {
            Check.fails("5 vx " + speed, () -> x.push(0, speed, 0), ARGUMENT);
            Check.fails("5 vy " + speed, () -> x.push(0, 0, speed), ARGUMENT);
        }
        Check.gives("5 first", () -> x.push(0, -48, 48), 0);
        Check.gives("5 second", () -> x.push(0, 48, -48), 64 * -48 + 48);
        Check.gives("5 third", () -> x.push(0, 3, 5), 64 * 48 - 48);
        x.start(1);
        Check.gives("5 vx", () -> x.field(0, 0, 4), 3);
        Check.gives("5 vy", () -> x.field(0, 0, 5), 5);
        Check.fails("5 started", () -> x.push(0, 0, 0), STATE);
        Check.fails("5 started, element first", () -> x.push(1, 0, 0), ELEMENT);
        Check.fails("5 started, argument first", () -> x.push(0, 49, 0), ARGUMENT);
    }

    private static void start() {
        Rollbacker x = new Rollbacker();
        ball(x, 100);
        x.push(0, 3, 5);
        for (int players : new int[] {Integer.MIN_VALUE, -1, 0, 4, Integer.MAX_VALUE}) {
            Check.fails("6 players " + players, () -> x.start(players), ARGUMENT);
        }
        int due = digest(1, new int[] {1, 1, 100, 1000, 3, 5, 10, 1, -1, 0, 0, -1, 0, 0, 0});
        Check.gives("6 hash", () -> x.start(3), due);
        Check.fails("6 again", () -> x.start(3), STATE);
        Check.fails("6 again, argument first", () -> x.start(4), ARGUMENT);
        Check.gives("6 a third peer", () -> x.done(2), 0);
        Check.fails("6 no fourth peer", () -> x.done(3), INDEX);
        Rollbacker y = started(1);
        Check.fails("6 one player alone", () -> y.done(1), INDEX);
    }

    private static void press() {
        Rollbacker building = new Rollbacker();
        Check.fails("7 not started", () -> building.press(0, 0), INDEX);
        Check.fails("7 index first", () -> building.press(0, 32), INDEX);
        Rollbacker x = started(2);
        for (int player : new int[] {-1, 2, Integer.MIN_VALUE, Integer.MAX_VALUE}) {
            Check.fails("7 player " + player, () -> x.press(player, 32), INDEX);
        }
        for (int input : new int[] {-1, 32, Integer.MIN_VALUE, Integer.MAX_VALUE}) {
            Check.fails("7 input " + input, () -> x.press(0, input), ARGUMENT);
        }
        Check.gives("7 first", () -> x.press(0, 31), 0);
        Check.gives("7 other player", () -> x.press(1, 2), 0);
        Check.gives("7 second", () -> x.press(0, 8), 31);
        Check.gives("7 third", () -> x.press(0, 0), 8);
        x.tick(1);
        Check.gives("7 at its own peer at once", () -> x.field(1, 1, 4), 4);
        Check.gives("7 not at the other one yet", () -> x.field(0, 1, 4), 0);
        x.tick(1);
        Check.gives("7 from now on", () -> x.field(1, 1, 4), 7);
        Check.gives("7 still pressed", () -> x.press(1, 0), 2);
    }

    private static void setDelay() {
        Rollbacker building = new Rollbacker();
        Check.fails("8 not started", () -> building.setDelay(0, 1, 1), INDEX);
        Rollbacker x = started(2);
        for (int peer : new int[] {-1, 2, Integer.MIN_VALUE, Integer.MAX_VALUE}) {
            Check.fails("8 peer " + peer, () -> x.setDelay(peer, 0, 0), INDEX);
            Check.fails("8 to " + peer, () -> x.setDelay(0, peer, 0), INDEX);
            Check.fails("8 both " + peer, () -> x.setDelay(peer, peer, 0), INDEX);
        }
        Check.fails("8 same", () -> x.setDelay(1, 1, 1), ARGUMENT);
        for (int delay : new int[] {0, 10, Integer.MIN_VALUE, Integer.MAX_VALUE}) {
            Check.fails("8 delay " + delay, () -> x.setDelay(0, 1, delay), ARGUMENT);
        }
        Check.gives("8 first", () -> x.setDelay(0, 1, 9), 1);
        Check.gives("8 second", () -> x.setDelay(0, 1, 3), 9);
        Check.gives("8 other way", () -> x.setDelay(1, 0, 2), 1);
        x.tick(3);
        Check.gives("8 0 to 1 after 3 ticks", () -> x.known(1, 0), 0);
        Check.gives("8 1 to 0 after 3 ticks", () -> x.known(0, 1), 1);
        Check.gives("8 faster from now on", () -> x.setDelay(0, 1, 1), 3);
        x.tick(1);
        Check.gives("8 the first packet", () -> x.known(1, 0), 1);
        x.tick(1);
        Check.gives("8 a later packet overtakes", () -> x.known(1, 0), 4);
        x.tick(1);
        Check.gives("8 and is not undone", () -> x.known(1, 0), 5);
    }

    private static void lose() {
        Rollbacker building = new Rollbacker();
        Check.fails("9 not started", () -> building.lose(0, 1, 1), INDEX);
        Rollbacker x = started(2);
        for (int peer : new int[] {-1, 2, Integer.MIN_VALUE, Integer.MAX_VALUE}) {
            Check.fails("9 peer " + peer, () -> x.lose(peer, 0, -1), INDEX);
            Check.fails("9 to " + peer, () -> x.lose(0, peer, -1), INDEX);
        }
        Check.fails("9 same", () -> x.lose(0, 0, 1), ARGUMENT);
        for (int many : new int[] {-1, 51, Integer.MIN_VALUE, Integer.MAX_VALUE}) {
            Check.fails("9 many " + many, () -> x.lose(0, 1, many), ARGUMENT);
        }
        Check.gives("9 first", () -> x.lose(0, 1, 50), 0);
        Check.gives("9 in place of", () -> x.lose(0, 1, 3), 50);
        x.tick(1);
        Check.gives("9 flying", x::flying, 1);
        Check.gives("9 one was lost", () -> x.lose(0, 1, 3), 2);
        x.tick(3);
        Check.gives("9 all were lost", () -> x.known(1, 0), 0);
        Check.gives("9 the other way not", () -> x.known(0, 1), 3);
        x.tick(1);
        Check.gives("9 sent now", () -> x.lose(0, 1, 0), 0);
        x.tick(1);
        Check.gives("9 the next tells all", () -> x.known(1, 0), 5);
        x.lose(1, 0, 5);
        x.lose(1, 0, 0);
        x.tick(1);
        Check.gives("9 none", () -> x.known(0, 1), 6);
        x.tick(1);
        Check.gives("9 none", () -> x.known(0, 1), 7);
    }

    private static void tick() {
        Rollbacker building = new Rollbacker();
        Check.fails("10 not started", () -> building.tick(0), STATE);
        Rollbacker x = started(1);
        for (int ticks : new int[] {0, -1, 21, Integer.MIN_VALUE, Integer.MAX_VALUE}) {
            Check.fails("10 ticks " + ticks, () -> x.tick(ticks), ARGUMENT);
        }
        Check.gives("10 one", () -> x.tick(1), 1);
        Check.gives("10 steps", () -> x.done(0), 1);
        for (int now = 21; now <= 381; now += 20) {
            Check.gives("10 twenty", () -> x.tick(20), now);
        }
        Check.fails("10 beyond 400", () -> x.tick(20), ARGUMENT);
        Check.gives("10 up to 400", () -> x.tick(19), 400);
        Check.fails("10 at 400", () -> x.tick(1), ARGUMENT);
        Check.gives("10 at most 150 steps", () -> x.done(0), 150);
        Check.gives("10 and then stalls", () -> x.stalls(0), 250);
    }

    private static void noPeer(String what, java.util.function.IntFunction<Object> call) {
        for (int peer : new int[] {-1, 2, 3, Integer.MIN_VALUE, Integer.MAX_VALUE}) {
            Check.fails(what + " peer " + peer, () -> call.apply(peer), INDEX);
        }
    }

    private static void doneAndOwed() {
        Rollbacker building = new Rollbacker();
        Check.fails("11 not started", () -> building.done(0), INDEX);
        Check.fails("12 not started", () -> building.owed(0), INDEX);
        Rollbacker x = apart();
        noPeer("11", x::done);
        noPeer("12", x::owed);
        Check.gives("11 ten unconfirmed", () -> x.done(0), 10);
        Check.gives("12 none", () -> x.owed(0), 0);
        x.tick(1);
        Check.gives("11 stalled", () -> x.done(0), 10);
        x.tick(1);
        Check.gives("11 eight again of ten", () -> x.done(0), 8);
        Check.gives("12 two", () -> x.owed(0), 2);
        Check.gives("11 nothing was wrong there", () -> x.done(1), 11);
        Check.gives("12 none there", () -> x.owed(1), 0);
        x.tick(1);
        Check.gives("11 two and a new one", () -> x.done(0), 11);
        Check.gives("12 none any more", () -> x.owed(0), 0);
    }

    private static void confirmedAndKnown() {
        Rollbacker building = new Rollbacker();
        Check.fails("13 not started", () -> building.confirmed(0), INDEX);
        Check.fails("14 not started", () -> building.known(0, 0), INDEX);
        Rollbacker x = apart();
        noPeer("13", x::confirmed);
        noPeer("14", peer -> x.known(peer, 0));
        noPeer("14 player", player -> x.known(0, player));
        Check.gives("13 none", () -> x.confirmed(0), 0);
        Check.gives("14 its own", () -> x.known(0, 0), 10);
        Check.gives("14 of the other one", () -> x.known(0, 1), 0);
        x.tick(2);
        Check.gives("13 as far as done", () -> x.confirmed(0), 8);
        Check.gives("14 its own, those owed too", () -> x.known(0, 0), 10);
        Check.gives("14 all of the other one", () -> x.known(0, 1), 10);
        Check.gives("13 as far as known", () -> x.confirmed(1), 10);
        Check.gives("14 of peer 1", () -> x.known(1, 0), 10);
        Check.gives("14 its own, of peer 1", () -> x.known(1, 1), 11);
        Rollbacker alone = started(1);
        alone.tick(7);
        Check.gives("13 alone", () -> alone.confirmed(0), 7);
        Check.gives("14 alone", () -> alone.known(0, 0), 7);
        Check.fails("14 alone", () -> alone.known(0, 1), INDEX);
    }

    private static void stalls() {
        Rollbacker building = new Rollbacker();
        Check.fails("15 not started", () -> building.stalls(0), INDEX);
        Rollbacker x = apart();
        noPeer("15", x::stalls);
        Check.gives("15 two of 12", () -> x.stalls(0), 2);
        x.tick(2);
        Check.gives("15 one more, and one as it owes", () -> x.stalls(0), 4);
        Check.gives("15 one more", () -> x.stalls(1), 3);
        x.tick(3);
        Check.gives("15 no more", () -> x.stalls(0), 4);
        // Eight steps are owed: these are done, but no budget is left for a new one.
        Rollbacker y = started(2);
        y.lose(1, 0, 7);
        y.press(1, 2);
        y.tick(8);
        Check.gives("15 eight done", () -> y.done(0), 8);
        y.tick(1);
        Check.gives("15 eight done again", () -> y.done(0), 8);
        Check.gives("15 none owed", () -> y.owed(0), 0);
        Check.gives("15 no budget left", () -> y.stalls(0), 1);
    }

    private static void takenBack() {
        Rollbacker building = new Rollbacker();
        Check.fails("16 not started", () -> building.takenBack(0), INDEX);
        Rollbacker x = apart();
        noPeer("16", x::takenBack);
        Check.gives("16 none yet", () -> x.takenBack(0), 0);
        x.tick(2);
        Check.gives("16 ten at once", () -> x.takenBack(0), 10);
        Check.gives("16 none where all was foretold well", () -> x.takenBack(1), 0);
        Rollbacker y = started(2);
        y.tick(3);
        y.press(1, 2);
        y.tick(2);
        Check.gives("16 one, foretold with the last input", () -> y.takenBack(0), 1);
        y.tick(3);
        Check.gives("16 that is pressed still", () -> y.takenBack(0), 1);
        y.press(1, 0);
        y.tick(3);
        Check.gives("16 one more", () -> y.takenBack(0), 2);
        Check.gives("16 none there", () -> y.takenBack(1), 0);
    }

    private static void flying() {
        Rollbacker x = started(3);
        Check.gives("17 none yet", x::flying, 0);
        x.tick(1);
        Check.gives("17 one on each link", x::flying, 6);
        x.setDelay(0, 1, 9);
        x.tick(4);
        Check.gives("17 slow link", x::flying, 5 + 4);
        x.lose(2, 1, 4);
        x.tick(1);
        Check.gives("17 lost ones are never under way", x::flying, 4 + 5);
        x.tick(20);
        Check.gives("17 they arrive", x::flying, 5 + 9);
        Rollbacker alone = started(1);
        alone.tick(5);
        Check.gives("17 alone", alone::flying, 0);
    }

    private static void field() {
        Rollbacker building = new Rollbacker();
        Check.fails("18 not started", () -> building.field(0, 0, 0), INDEX);
        Rollbacker x = started(2);
        noPeer("18", peer -> x.field(peer, 99, 99));
        for (int place : new int[] {-1, 2, 15, 16, Integer.MIN_VALUE, Integer.MAX_VALUE}) {
            Check.fails("18 place " + place, () -> x.field(0, place, 99), ELEMENT);
        }
        for (int field : new int[] {-1, 15, Integer.MIN_VALUE, Integer.MAX_VALUE}) {
            Check.fails("18 field " + field, () -> x.field(0, 0, field), ARGUMENT);
        }
        Check.gives("18 x as built", () -> x.field(0, 0, 2), 500);
        x.press(0, 18);
        x.tick(1);
        int[] runner = {1, 0, 504, 1000, 4, 0, 10, 3, 0, 8, 0, -1, 0, 0, 0};
        int[] shot = {1, 2, 504, 1000, 32, 0, 2, 1, 0, 20, 0, -1, 0, 0, 0};
        for (int i = 0; i < 15; i++) {
            int field = i;
            Check.gives("18 runner " + i, () -> x.field(0, 0, field), runner[i]);
            Check.gives("18 shot " + i, () -> x.field(0, 2, field), shot[i]);
        }
        Check.gives("18 the other peer's own world", () -> x.field(1, 0, 2), 500);
        Rollbacker y = apart();
        y.tick(2);
        Check.gives("18 behind 8 steps, 2 are owed", () -> y.field(0, 1, 9), 1);
    }

    private static void boxes() {
        Rollbacker building = new Rollbacker();
        Check.fails("19 not started", () -> building.boxes(0), INDEX);
        Rollbacker x = started(2);
        noPeer("19", x::boxes);
        Check.gives("19 as built", () -> x.boxes(0), 2);
        x.press(0, 16);
        x.tick(1);
        Check.gives("19 with a shot", () -> x.boxes(0), 3);
        Check.gives("19 not foretold", () -> x.boxes(1), 2);
        Rollbacker full = new Rollbacker();
        for (int i = 0; i < 16; i++) {
            ball(full, 100 + 100 * i);
        }
        full.start(1);
        Check.gives("19 full", () -> full.boxes(0), 16);
    }

    private static void hash() {
        Rollbacker building = new Rollbacker();
        Check.fails("20 not started", () -> building.hash(0, 0), INDEX);
        Rollbacker x = new Rollbacker();
        ball(x, 100);
        x.push(0, 3, 5);
        x.start(2);
        Check.fails("20 not done", () -> x.hash(0, 0), ELEMENT);
        x.tick(2);
        noPeer("20", peer -> x.hash(peer, 99));
        for (int step : new int[] {-1, 2, 149, 150, Integer.MIN_VALUE, Integer.MAX_VALUE}) {
            Check.fails("20 step " + step, () -> x.hash(0, step), ELEMENT);
        }
        int[] first = {1, 1, 103, 1005, 3, 5, 10, 1, -1, 0, 0, -1, 0, 0, 0};
        int[] second = {1, 1, 106, 1010, 3, 5, 10, 1, -1, 0, 0, -1, 0, 0, 0};
        Check.gives("20 first", () -> x.hash(0, 0), digest(1, first));
        Check.gives("20 second", () -> x.hash(1, 1), digest(1, second));
        Rollbacker random = new Rollbacker();
        random.addScript();
        random.addOperation(0, 'r', 20, 0);
        random.addBox(1, 1000, 1000, 10, 1, 0, 0);
        random.start(1);
        random.tick(1);
        int seed = 1103515245 + 12345;
        int vx = ((seed >> 16) & 0x7fff) % 41 - 20;
        int[] thrown = {1, 1, 1000 + vx, 1000, vx, 0, 10, 1, -1, 0, 0, -1, 1, 0, 0};
        Check.gives("20 with a seed", () -> random.hash(0, 0), digest(seed, thrown));
        Rollbacker y = apart();
        y.tick(2);
        Check.gives("20 done", () -> y.hash(0, 7), y.loneHash(7));
        Check.fails("20 owed", () -> y.hash(0, 8), ELEMENT);
    }

    private static void loneHash() {
        Rollbacker building = new Rollbacker();
        Check.fails("21 not started", () -> building.loneHash(-1), STATE);
        Rollbacker x = started(2);
        Check.fails("21 no input yet", () -> x.loneHash(0), ELEMENT);
        x.press(1, 2);
        x.tick(1);
        int[] still = {1, 0, 500, 1000, 0, 0, 10, 3, 0, 0, 0, -1, 0, 0, 0};
        int[] gone = {1, 0, 1504, 1000, 4, 0, 10, 3, 1, 0, 0, -1, 0, 0, 0};
        Check.gives("21 with all inputs", () -> x.loneHash(0), digest(1, still, gone));
        Check.gives("21 as peer 1", () -> x.hash(1, 0), digest(1, still, gone));
        Check.gives("21 not as peer 0", () -> x.hash(0, 0) == x.loneHash(0), false);
        for (int step : new int[] {-1, 1, 150, Integer.MIN_VALUE, Integer.MAX_VALUE}) {
            Check.fails("21 step " + step, () -> x.loneHash(step), ELEMENT);
        }
        Rollbacker y = started(2);
        y.lose(1, 0, 50);
        y.tick(15);
        Check.gives("21 ten of one, 15 of the other", () -> y.done(0) * 100 + y.done(1), 1015);
        Check.gives("21 the last with both", () -> y.loneHash(9), y.hash(1, 9));
        Check.fails("21 only one has made it", () -> y.loneHash(10), ELEMENT);
        Rollbacker z = apart();
        z.tick(2);
        Check.gives("21 an input for a step that is owed", () -> z.loneHash(9), z.hash(1, 9));
    }

    private static void hashWith() {
        Rollbacker building = new Rollbacker();
        Check.fails("22 not started", () -> building.hashWith(1, 9, 99, 0), STATE);
        Rollbacker x = started(2);
        x.press(0, 2);
        x.tick(5);
        for (int player : new int[] {-1, 2, Integer.MIN_VALUE, Integer.MAX_VALUE}) {
            Check.fails("22 player " + player, () -> x.hashWith(-1, player, 0, 99), ARGUMENT);
        }
        for (int input : new int[] {-1, 32, Integer.MIN_VALUE, Integer.MAX_VALUE}) {
            Check.fails("22 input " + input, () -> x.hashWith(-1, 0, input, 99), ARGUMENT);
        }
        Check.fails("22 backwards", () -> x.hashWith(3, 0, 0, 2), ARGUMENT);
        Check.fails("22 backwards, no such", () -> x.hashWith(3, 0, 0, Integer.MIN_VALUE), ARGUMENT);
        Check.fails("22 no first", () -> x.hashWith(-1, 0, 0, 2), ELEMENT);
        Check.fails("22 no first", () -> x.hashWith(Integer.MIN_VALUE, 0, 0, -1), ELEMENT);
        Check.fails("22 no second", () -> x.hashWith(2, 0, 0, 5), ELEMENT);
        Check.fails("22 neither", () -> x.hashWith(5, 0, 0, Integer.MAX_VALUE), ELEMENT);
        Check.gives("22 the same input", () -> x.hashWith(2, 0, 2, 4), x.loneHash(4));
        // 4, 8-1, 11-1 with right held: at 504, 512, 523, 537, 554; down in the first step instead:
        int[] down = {1, 0, 500, 1004, 0, 4, 10, 3, 0, 0, 1, -1, 0, 0, 0};
        int[] later = {1, 0, 504, 1008, 4, 4, 10, 3, 0, 0, 0, -1, 0, 0, 0};
        int[] other = {1, 0, 1500, 1000, 0, 0, 10, 3, 1, 0, 0, -1, 0, 0, 0};
        Check.gives("22 down", () -> x.hashWith(0, 0, 8, 0), digest(1, down, other));
        Check.gives("22 down and then right", () -> x.hashWith(0, 0, 8, 1), digest(1, later, other));
        int before = x.loneHash(4);
        x.hashWith(0, 1, 31, 4);
        Check.gives("22 nothing is changed", () -> x.loneHash(4), before);
        Rollbacker y = started(2);
        y.press(0, 2);
        y.tick(5);
        Check.gives("22 asked for first of all", () -> y.hashWith(4, 1, 31, 4), x.hashWith(4, 1, 31, 4));
        // Player 1 pressing right in step 2 alone, done for real:
        Rollbacker real = started(2);
        real.press(0, 2);
        real.tick(2);
        real.press(1, 2);
        real.tick(1);
        real.press(1, 0);
        real.tick(2);
        Check.gives("22 as if it had been", () -> x.hashWith(2, 1, 2, 4), real.loneHash(4));
    }

    private static void cheat() {
        Rollbacker building = new Rollbacker();
        Check.fails("23 not started", () -> building.cheat(0, 0, 2, 0), INDEX);
        Rollbacker x = started(2);
        Check.fails("23 no step", () -> x.cheat(0, 0, 2, 5), ELEMENT);
        Check.fails("23 no step, element first", () -> x.cheat(0, 0, 99, 99), ELEMENT);
        x.tick(1);
        noPeer("23", peer -> x.cheat(peer, 99, 99, 99));
        for (int place : new int[] {-1, 2, 16, Integer.MIN_VALUE, Integer.MAX_VALUE}) {
            Check.fails("23 place " + place, () -> x.cheat(0, place, 99, 99), ELEMENT);
        }
        for (int field : new int[] {-1, 0, 1, 8, 14, 15, Integer.MIN_VALUE, Integer.MAX_VALUE}) {
            Check.fails("23 field " + field, () -> x.cheat(0, 0, field, 5), ARGUMENT);
        }
        for (int value : new int[] {-1, 49, Integer.MIN_VALUE, Integer.MAX_VALUE}) {
            Check.fails("23 value " + value, () -> x.cheat(0, 0, 2, value), ARGUMENT);
        }
        int[] before = {500, 1000, 0, 0, 10, 3};
        for (int i = 0; i < 6; i++) {
            int field = 2 + i;
            Check.gives("23 before " + field, () -> x.cheat(0, 0, field, 0), before[i]);
            Check.gives("23 lowest " + field, () -> x.cheat(0, 0, field, 48), 0);
            Check.gives("23 highest " + field, () -> x.field(0, 0, field), 48);
            Check.gives("23 the other peer " + field, () -> x.field(1, 0, field), before[i]);
        }
        int[] changed = {1, 0, 48, 48, 48, 48, 48, 48, 0, 0, 0, -1, 0, 0, 0};
        int[] other = {1, 0, 1500, 1000, 0, 0, 10, 3, 1, 0, 0, -1, 0, 0, 0};
        Check.gives("23 the hash behind this step", () -> x.hash(0, 0), digest(1, changed, other));
        x.tick(1);
        Check.gives("23 it goes on from there", () -> x.field(0, 0, 2), 96);
        Rollbacker y = apart();
        y.cheat(0, 0, 7, 44);
        y.tick(2);
        Check.gives("23 taken back with the steps", () -> y.field(0, 0, 7), 3);
    }

    /** Two runners that overlap; peer 1 holds right from the first step on, of which 0 hears in the tick 3. */
    private static Rollbacker meeting(int second) {
        Rollbacker x = new Rollbacker();
        runner(x, 1000, 0);
        runner(x, second, 1);
        x.start(2);
        return x;
    }

    private static void shownAndCancelled() {
        Rollbacker building = new Rollbacker();
        Check.fails("24 not started", () -> building.shown(0), INDEX);
        Check.fails("25 not started", () -> building.cancelled(0), INDEX);
        Rollbacker x = meeting(1018);
        noPeer("24", x::shown);
        noPeer("25", x::cancelled);
        Check.gives("24 none yet", () -> x.shown(0), 0);
        // They overlap by 2 in the step 0, unless 1 goes right by 4.
        x.press(1, 2);
        x.tick(1);
        Check.gives("24 shown early", () -> x.shown(0), 1);
        Check.gives("24 not there", () -> x.shown(1), 0);
        Check.gives("25 not yet", () -> x.cancelled(0), 0);
        x.tick(1);
        Check.gives("24 cancelled ones are counted", () -> x.shown(0), 1);
        Check.gives("25 cancelled", () -> x.cancelled(0), 1);
        Check.gives("25 none there", () -> x.cancelled(1), 0);
        // The other way round: 1 comes nearer, and 0 hears late of it.
        Rollbacker y = meeting(1022);
        y.press(1, 1);
        y.tick(1);
        Check.gives("24 not shown early", () -> y.shown(0), 0);
        Check.gives("24 shown there", () -> y.shown(1), 1);
        y.tick(1);
        Check.gives("24 shown late", () -> y.shown(0) > 0 && y.effects(0, 0) == 1, true);
        Check.gives("25 none", () -> y.cancelled(0), 0);
        // The same effect comes again when the step is done again: it is shown once.
        Rollbacker z = meeting(1018);
        z.press(1, 8);
        z.tick(1);
        Check.gives("24 once", () -> z.shown(0), 1);
        z.lose(1, 0, 50);
        z.lose(0, 1, 50);
        z.tick(1);
        Check.gives("24 taken back", () -> z.takenBack(0), 1);
        Check.gives("24 once still", () -> z.effects(0, 0), 1);
        Check.gives("25 came again", () -> z.cancelled(0), 0);
    }

    private static void effects() {
        Rollbacker building = new Rollbacker();
        Check.fails("26 not started", () -> building.effects(0, 0), INDEX);
        Rollbacker x = meeting(1018);
        Check.fails("26 never done", () -> x.effects(0, 0), ELEMENT);
        x.press(1, 2);
        x.tick(1);
        noPeer("26", peer -> x.effects(peer, 99));
        for (int step : new int[] {-1, 1, 149, 150, Integer.MIN_VALUE, Integer.MAX_VALUE}) {
            Check.fails("26 step " + step, () -> x.effects(0, step), ELEMENT);
        }
        Check.gives("26 shown", () -> x.effects(0, 0), 1);
        Check.gives("26 at peer 1", () -> x.effects(1, 0), 0);
        x.tick(1);
        Check.gives("26 cancelled", () -> x.effects(0, 0), 0);
        Rollbacker y = apart();
        y.tick(2);
        Check.gives("26 owed, but done before", () -> y.done(0) * 100 + y.effects(0, 9), 800);
        Check.fails("26 never done", () -> y.effects(0, 10), ELEMENT);
    }

    private static void effectAt() {
        Rollbacker building = new Rollbacker();
        Check.fails("27 not started", () -> building.effectAt(0, 0, 0), INDEX);
        Rollbacker x = new Rollbacker();
        x.addBox(1, 1000, 1000, 10, 1, 0, -1);
        x.addBox(1, 1010, 1000, 10, 1, 0, -1);
        x.addBox(3, 1005, 1000, 10, 1, 0, -1);
        x.addBox(1, 3000, 1000, 10, 1, 0, -1);
        x.start(2);
        Check.fails("27 never done", () -> x.effectAt(0, 0, 0), ELEMENT);
        x.tick(1);
        noPeer("27", peer -> x.effectAt(peer, 99, 99));
        Check.fails("27 no step", () -> x.effectAt(0, -1, 0), ELEMENT);
        Check.fails("27 no step", () -> x.effectAt(0, 1, 0), ELEMENT);
        for (int index : new int[] {-1, 3, Integer.MIN_VALUE, Integer.MAX_VALUE}) {
            Check.fails("27 index " + index, () -> x.effectAt(0, 0, index), ELEMENT);
        }
        Check.gives("27 how many", () -> x.effects(0, 0), 3);
        Check.gives("27 both balls", () -> x.effectAt(0, 0, 0), 4001);
        Check.gives("27 the wall", () -> x.effectAt(0, 0, 1), 3002);
        Check.gives("27 the wall", () -> x.effectAt(0, 0, 2), 3022);
    }

    private static void difference() {
        Rollbacker building = new Rollbacker();
        Check.fails("28 not started", () -> building.difference(0, 0), INDEX);
        Rollbacker x = started(2);
        noPeer("28", peer -> x.difference(peer, 0));
        noPeer("28 other", peer -> x.difference(0, peer));
        Check.fails("28 none yet", () -> x.difference(0, 1), ELEMENT);
        x.tick(5);
        Check.fails("28 none", () -> x.difference(0, 1), ELEMENT);
        x.cheat(1, 0, 7, 9);
        Check.fails("28 not confirmed", () -> x.difference(0, 1), ELEMENT);
        x.tick(1);
        Check.gives("28 confirmed", () -> x.confirmed(0), 5);
        Check.gives("28 the step 4", () -> x.difference(0, 1), 4);
        Check.gives("28 either way", () -> x.difference(1, 0), 4);
        Check.fails("28 the same peer", () -> x.difference(1, 1), ELEMENT);
        x.tick(5);
        Check.gives("28 the first one", () -> x.difference(0, 1), 4);
        Rollbacker y = apart();
        y.tick(1);
        Rollbacker z = started(2);
        z.tick(1);
        z.cheat(1, 1, 7, 9);
        z.lose(1, 0, 3);
        z.lose(0, 1, 3);
        z.setDelay(1, 0, 2);
        z.tick(1);
        Check.gives("28 the step 0", () -> z.difference(0, 1), 0);
        z.tick(3);
        z.cheat(1, 0, 7, 9);
        Check.gives("28 the first one still", () -> z.difference(0, 1), 0);
        Rollbacker one = started(2);
        one.tick(3);
        one.lose(1, 0, 3);
        one.tick(1);
        one.cheat(1, 0, 7, 9);
        one.tick(2);
        Check.gives("28 confirmed by one", () -> one.confirmed(0) * 10 + one.confirmed(1), 35);
        Check.fails("28 but not by the other one", () -> one.difference(0, 1), ELEMENT);
        one.tick(2);
        Check.gives("28 by both", () -> one.difference(0, 1), 3);
        Check.gives("28 what is foretold differs", () -> y.hash(0, 3) == y.hash(1, 3), false);
        Check.fails("28 but is not confirmed", () -> y.difference(0, 1), ELEMENT);
    }

    private static void differentPlaceAndField() {
        Rollbacker building = new Rollbacker();
        Check.fails("29 not started", () -> building.differentPlace(0, 0), INDEX);
        Check.fails("30 not started", () -> building.differentField(0, 0), INDEX);
        Rollbacker x = started(2);
        noPeer("29", peer -> x.differentPlace(peer, 0));
        noPeer("29 other", peer -> x.differentPlace(0, peer));
        noPeer("30", peer -> x.differentField(peer, 0));
        noPeer("30 other", peer -> x.differentField(0, peer));
        x.tick(5);
        Check.fails("29 none", () -> x.differentPlace(0, 1), ELEMENT);
        Check.fails("30 none", () -> x.differentField(0, 1), ELEMENT);
        x.cheat(1, 1, 7, 9);
        x.cheat(1, 1, 6, 11);
        x.tick(1);
        Check.gives("29 place", () -> x.differentPlace(0, 1), 1);
        Check.gives("30 lowest field", () -> x.differentField(0, 1), 6);
        Check.gives("29 either way", () -> x.differentPlace(1, 0), 1);
        Check.gives("30 either way", () -> x.differentField(1, 0), 6);
        Check.fails("29 the same peer", () -> x.differentPlace(1, 1), ELEMENT);
        missingBox();
    }

    /** The step that is told is the cheated one, whatever it leads to. */
    private static void missingBox() {
        Rollbacker x = new Rollbacker();
        x.addScript();
        x.addOperation(0, 't', 0, 0);
        x.addOperation(0, 'e', 0, 0);
        ball(x, 3000);
        x.addBox(1, 1000, 1000, 10, 1, 0, 0);
        x.addBox(3, 1020, 1000, 10, 1, 0, -1);
        x.start(2);
        x.tick(3);
        // With a half of 48 the ball touches the wall in the step 3, and so is gone in the step 4.
        x.cheat(1, 1, 6, 48);
        x.tick(3);
        Check.gives("29 gone there", () -> x.boxes(0) * 10 + x.boxes(1), 32);
        Check.gives("28 the cheated step", () -> x.difference(0, 1), 2);
        Check.gives("29 the ball's place", () -> x.differentPlace(0, 1), 1);
        Check.gives("30 the half", () -> x.differentField(0, 1), 6);
    }

    private static void stepsAndWaste() {
        Rollbacker building = new Rollbacker();
        Check.gives("31 not started", building::steps, 0L);
        Check.fails("32 not started", building::waste, ELEMENT);
        Rollbacker x = started(2);
        Check.gives("31 none", x::steps, 0L);
        Check.fails("32 none", x::waste, ELEMENT);
        x.tick(3);
        Check.gives("31 three each", x::steps, 6L);
        Check.gives("32 none taken back", x::waste, 0f);
        Rollbacker y = apart();
        y.tick(2);
        Check.gives("31 10 and 8 again, and 11", y::steps, 29L);
        Check.gives("32 ten of these", y::waste, 10f / 29f);
        y.loneHash(5);
        y.hashWith(0, 0, 0, 5);
        Check.gives("31 the lone run is no peer", y::steps, 29L);
    }

    private static void isSound() {
        Rollbacker building = new Rollbacker();
        Check.gives("33 not started", building::isSound, true);
        Rollbacker x = apart();
        Check.gives("33 nothing is confirmed", x::isSound, true);
        x.tick(2);
        Check.gives("33 some is owed", x::isSound, true);
        x.tick(20);
        Check.gives("33 all", x::isSound, true);
        Check.gives("33 with a hash that is confirmed", () -> x.hash(0, 20), x.loneHash(20));
        x.cheat(0, 0, 2, 5);
        x.tick(5);
        int last = x.confirmed(0) - 1;
        Check.gives("33 differs", () -> x.hash(0, last) == x.loneHash(last), false);
        Check.gives("33 a cheated peer does not count", x::isSound, true);
    }

    private static void nothingChangesByExceptions() {
        Rollbacker x = new Rollbacker();
        Check.fails("x addBox", () -> x.addBox(1, 100, 100, 10, 1, 0, 0), INDEX);
        Check.gives("x no box", () -> ball(x, 100), 0);
        Check.fails("x push", () -> x.push(0, 7, 49), ARGUMENT);
        Check.gives("x no speed", () -> x.push(0, 0, 0), 0);
        Check.fails("x start", () -> x.start(9), ARGUMENT);
        Check.gives("x not started", x::addScript, 0);
        Check.fails("x operation", () -> x.addOperation(0, 'v', 7, 49), ARGUMENT);
        Check.gives("x no operation", () -> x.addOperation(0, 'e', 0, 0), 0);
        x.start(2);
        Check.fails("x press", () -> x.press(0, 32), ARGUMENT);
        Check.gives("x not pressed", () -> x.press(0, 0), 0);
        Check.fails("x delay", () -> x.setDelay(0, 1, 10), ARGUMENT);
        Check.gives("x no delay", () -> x.setDelay(0, 1, 1), 1);
        Check.fails("x lose", () -> x.lose(0, 1, 51), ARGUMENT);
        Check.gives("x none lost", () -> x.lose(0, 1, 0), 0);
        Check.fails("x tick", () -> x.tick(21), ARGUMENT);
        Check.gives("x no tick", () -> x.tick(1), 1);
        Check.fails("x cheat", () -> x.cheat(0, 0, 2, 49), ARGUMENT);
        Check.gives("x not cheated", () -> x.field(0, 0, 2), 100);
    }
}
