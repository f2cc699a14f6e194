import java.math.BigInteger;

/**
 * The promises 1 to 33 at the last number that is still in range, on both sides: that it is taken, what is answered,
 * and what it changes. What is out of range, and that it changes nothing, is in RefusedTest.
 */
public final class AnswerEdgeTest {
    private static final int MIN = Integer.MIN_VALUE;
    private static final int MAX = Integer.MAX_VALUE;

    public static void main(String[] args) {
        newObject();
        addScript();
        addOperation();
        addBoxAtEdges();
        addBoxByNumbers();
        push();
        start();
        press();
        setDelay();
        lose();
        tick();
        doneAndOwed();
        known();
        stallsAndTakenBack();
        flying();
        field();
        boxes();
        hash();
        loneHash();
        hashWith();
        cheat();
        shownAndCancelled();
        effects();
        effectAt();
        difference();
        differentPlaceAndField();
        stepsAndWaste();
        isSound();
        Check.end("AnswerEdgeTest");
    }

    // 1: "Creates a game that is not started, with an empty world."
    private static void newObject() {
        Rollbacker x = new Rollbacker();
        Check.fails("1 no peer", () -> x.boxes(0), Games.INDEX);
        Check.fails("1 no script", () -> x.addOperation(0, 'e', 0, 0), Games.INDEX);
        Check.fails("1 no box", () -> x.push(0, 0, 0), Games.ELEMENT);
        Check.gives("1 the lowest place is empty", () -> Games.box(x, Games.BALL, 100, 100, -1), 0);
        Rollbacker y = new Rollbacker();
        y.start(3);
        y.tick(20);
        for (int i = 0; i < 3; i++) {
            int peer = i;
            Check.gives("1 an empty world goes on", () -> y.done(peer) * 10 + y.boxes(peer), 200);
            Check.gives("1 an empty world", () -> y.hash(peer, 19), 17 * 31 + 1);
        }
    }

    // 2: "Throws IllegalStateException if there are 4 scripts"
    private static void addScript() {
        Rollbacker x = new Rollbacker();
        for (int i = 0; i < 4; i++) {
            Check.gives("2 script " + i, x::addScript, i);
        }
        Check.fails("2 the fifth", x::addScript, Games.STATE);
        for (int script = 0; script < 4; script++) {
            int number = script;
            Check.gives("2 four are there", () -> x.addOperation(number, 'e', 0, 0), 0);
        }
        Check.fails("2 the fifth is not", () -> x.addOperation(4, 'e', 0, 0), Games.INDEX);
    }

    // 3: "1 to 99 for 'w', -48 to 48 for 'v' and 'a', 0 to 11 for 'g', 1 to 20 for 'r'"
    private static void addOperation() {
        Object[][] ranges = {{'w', 1, 99}, {'v', -48, 48}, {'a', -48, 48}, {'g', 0, 11}, {'r', 1, 20}};
        for (Object[] range : ranges) {
            char kind = (Character) range[0];
            int least = (Integer) range[1];
            int most = (Integer) range[2];
            Rollbacker x = new Rollbacker();
            x.addScript();
            Check.fails("3 " + kind, () -> x.addOperation(0, kind, least - 1, 0), Games.ARGUMENT);
            Check.gives("3 " + kind, () -> x.addOperation(0, kind, least, 0), 0);
            Check.gives("3 " + kind, () -> x.addOperation(0, kind, most, 0), 1);
            Check.fails("3 " + kind, () -> x.addOperation(0, kind, most + 1, 0), Games.ARGUMENT);
            boolean hasSecond = kind == 'v' || kind == 'a';
            for (int b : new int[] {MIN, -49, 49, MAX}) {
                Object due = hasSecond ? "throws.IllegalArgumentException" : (Object) 2;
                Rollbacker y = new Rollbacker();
                y.addScript();
                y.addOperation(0, kind, least, 0);
                y.addOperation(0, kind, least, 48);
                Check.gives("3 " + kind + " with " + b, () -> y.addOperation(0, kind, least, b), due);
            }
        }
        for (char kind : new char[] {'t', 'f', 'e'}) {
            Rollbacker x = new Rollbacker();
            x.addScript();
            Check.gives("3 it has no number", () -> x.addOperation(0, kind, MIN, MAX), 0);
            Check.gives("3 it has no number", () -> x.addOperation(0, kind, MAX, MIN), 1);
        }
        for (int kind : new int[] {0, 'W', 'b', 'd', 'h', 's', 'u', 'x', 'w' + 256, 65535}) {
            Rollbacker x = new Rollbacker();
            x.addScript();
            Check.fails("3 kind " + kind, () -> x.addOperation(0, (char) kind, 1, 1), Games.ARGUMENT);
        }
        Rollbacker x = new Rollbacker();
        x.addScript();
        for (int place = 0; place < 12; place++) {
            Check.gives("3 place", () -> x.addOperation(0, 'e', 0, 0), place);
        }
        Check.fails("3 the thirteenth", () -> x.addOperation(0, 'e', 0, 0), Games.STATE);
    }

    // 4: "x less the half or y less the half is less than 0, x plus the half or y plus the half is greater than 4095"
    private static void addBoxAtEdges() {
        for (int half : new int[] {2, 3, 254, 255}) {
            int high = 4095 - half;
            Rollbacker x = new Rollbacker();
            int[][] within = {{half, half}, {high, half}, {half, high}, {high, high}};
            for (int i = 0; i < 4; i++) {
                int[] at = within[i];
                Check.gives("4 within", () -> x.addBox(Games.WALL, at[0], at[1], half, 1, 0, -1), i);
            }
            int[] beyond = {MIN, MIN + half, -1, half - 1, high + 1, 4095, 4096, MAX - half, MAX - half + 1, MAX};
            for (int at : beyond) {
                Check.fails("4 x " + at, () -> x.addBox(Games.WALL, at, 2000, half, 1, 0, -1), Games.ARGUMENT);
                Check.fails("4 y " + at, () -> x.addBox(Games.WALL, 2000, at, half, 1, 0, -1), Games.ARGUMENT);
            }
            Check.gives("4 none was put", () -> x.addBox(Games.WALL, 2000, 2000, half, 1, 0, -1), 4);
            x.start(1);
            for (int place = 0; place < 4; place++) {
                Games.is("4", x, place, Games.X, within[place][0], Games.Y, within[place][1], Games.HALF, half);
            }
        }
    }

    // 4: "the half, 2 to 255"; "the hits, 1 to 9"; "the player of a runner, 0 to 2, of no meaning otherwise"; "if there
    // is no such script, and it is not -1"
    private static void addBoxByNumbers() {
        Rollbacker x = new Rollbacker();
        int[] halves = {2, 255};
        int[] hits = {1, 9};
        int[] owners = {0, 2};
        for (int half : new int[] {MIN, -255, -2, 0, 1, 256, MAX}) {
            Check.fails("4 half " + half, () -> x.addBox(Games.BALL, 2000, 2000, half, 1, 0, -1), Games.ARGUMENT);
        }
        for (int hit : new int[] {MIN, -1, 0, 10, MAX}) {
            Check.fails("4 hits " + hit, () -> x.addBox(Games.BALL, 2000, 2000, 10, hit, 0, -1), Games.ARGUMENT);
        }
        for (int owner : new int[] {MIN, -1, 3, MAX}) {
            Check.fails("4 owner " + owner, () -> x.addBox(Games.RUNNER, 2000, 2000, 10, 1, owner, -1), Games.ARGUMENT);
        }
        for (int kind : new int[] {MIN, -1, 2, 4, MAX}) {
            Check.fails("4 kind " + kind, () -> x.addBox(kind, 2000, 2000, 10, 1, 0, -1), Games.ARGUMENT);
        }
        for (int script : new int[] {MIN, -2, 0, 1, MAX}) {
            Check.fails("4 no script", () -> x.addBox(Games.BALL, 2000, 2000, 10, 1, 0, script), Games.INDEX);
        }
        for (int i = 0; i < 2; i++) {
            int at = i;
            Check.gives("4 runner", () -> x.addBox(Games.RUNNER, 600, 600 + 600 * at, halves[at], hits[at], owners[at],
                    -1), i);
        }
        int without = MAX;
        for (int i = 0; i < 4; i++) {
            int script = i;
            Check.fails("4 not yet", () -> x.addBox(Games.BALL, 2000, 2000, 10, 1, 0, script), Games.INDEX);
            x.addScript();
            Check.gives("4 script", () -> x.addBox(Games.BALL, 1500 + 100 * script, 2000, 10, 1, without, script), 2 + i);
        }
        Check.fails("4 no more", () -> x.addBox(Games.BALL, 2000, 2000, 10, 1, 0, 4), Games.INDEX);
        x.start(1);
        for (int i = 0; i < 2; i++) {
            Games.is("4", x, i, Games.HALF, halves[i], Games.HITS, hits[i], Games.OWNER, owners[i], Games.SCRIPT, -1);
        }
        for (int i = 0; i < 4; i++) {
            Games.is("4", x, 2 + i, Games.SCRIPT, i, Games.OWNER, -1);
        }
    }

    // 5: "Returns 64 times vx before plus vy before."; "-48 to 48"
    private static void push() {
        Rollbacker x = new Rollbacker();
        for (int i = 0; i < 16; i++) {
            Games.box(x, i % 2 == 0 ? Games.BALL : Games.WALL, 100 + 100 * i, 1000, -1);
        }
        int[] speeds = {-48, -47, -1, 0, 1, 47, 48};
        int before = 0;
        for (int vx : speeds) {
            for (int vy : speeds) {
                Check.gives("5 " + vx + " " + vy, () -> x.push(15, vx, vy), before);
                before = 64 * vx + vy;
            }
        }
        int due = before;
        for (int wrong : new int[] {MIN, -49, 49, MAX}) {
            Check.fails("5 vx " + wrong, () -> x.push(15, wrong, 0), Games.ARGUMENT);
            Check.fails("5 vy " + wrong, () -> x.push(15, 0, wrong), Games.ARGUMENT);
        }
        Check.gives("5 nothing was changed", () -> x.push(15, -48, 48), due);
        Check.gives("5 the first place", () -> x.push(0, 1, 2), 0);
        Check.fails("5 place 16", () -> x.push(16, 0, 0), Games.ELEMENT);
        Check.fails("5 place -1", () -> x.push(-1, 0, 0), Games.ELEMENT);
        x.start(1);
        Games.is("5", x, 15, Games.VX, -48, Games.VY, 48);
        Games.is("5", x, 0, Games.VX, 1, Games.VY, 2);
        Games.is("5 no other one", x, 1, Games.VX, 0, Games.VY, 0);
        // When the game is started, the boxes that were built are those at such places.
        Rollbacker started = new Rollbacker();
        Games.box(started, Games.BALL, 1000, 1000, Games.script(started, "e"));
        Games.box(started, Games.BALL, 2000, 1000, Games.script(started, "v0,0 f"));
        started.start(1);
        started.tick(1);
        Games.is("5 a shot came", started, 0, Games.KIND, Games.SHOT);
        Check.gives("5 at the place of what is gone", () -> started.boxes(0), 2);
        Check.fails("5 a box that is gone", () -> started.push(0, 0, 0), Games.STATE);
        Check.fails("5 no box was built there", () -> started.push(2, 0, 0), Games.ELEMENT);
        Rollbacker fired = new Rollbacker();
        Games.box(fired, Games.BALL, 1000, 1000, Games.script(fired, "f"));
        Games.box(fired, Games.BALL, 2000, 1000, Games.script(fired, "e"));
        Games.box(fired, Games.BALL, 3000, 1000, Games.script(fired, "f"));
        fired.start(1);
        fired.tick(1);
        Games.is("5 shots came", fired, 3, Games.KIND, Games.SHOT);
        Check.fails("5 a shot's place", () -> fired.push(3, 0, 0), Games.ELEMENT);
        Check.fails("5 a speed of a shot", () -> fired.push(3, 49, 0), Games.ELEMENT);
        Check.fails("5 a speed ahead of the start", () -> fired.push(1, 49, 0), Games.ARGUMENT);
    }

    // 6: "the number of players, 1 to 3"; "Returns the hash of the world."
    private static void start() {
        for (int players = 1; players <= 3; players++) {
            int many = players;
            Rollbacker empty = new Rollbacker();
            Check.gives("6 empty", () -> empty.start(many), 528);
            Rollbacker full = new Rollbacker();
            int script = Games.script(full, "e");
            int[][] boxes = new int[16][];
            for (int place = 0; place < 16; place++) {
                full.addBox(Games.WALL, 200 * place + 255, 3840, 255, 9, 0, script);
                full.push(place, -48, 48);
                boxes[place] = new int[] {1, 3, 200 * place + 255, 3840, -48, 48, 255, 9, -1, 0, 0, 0, 0, 0, 0};
            }
            Check.fails("6 too few", () -> full.start(0), Games.ARGUMENT);
            Check.fails("6 too many", () -> full.start(4), Games.ARGUMENT);
            Check.gives("6 full", () -> full.start(many), wideDigest(1, boxes));
            Check.fails("6 again", () -> full.start(many), Games.STATE);
        }
    }

    /** The hash without going round, which is done once in the end. */
    private static int wideDigest(int seed, int[][] boxes) {
        BigInteger by = BigInteger.valueOf(31);
        BigInteger sum = BigInteger.valueOf(17);
        for (int place = 0; place < boxes.length; place++) {
            sum = sum.multiply(by).add(BigInteger.valueOf(place));
            for (int field : boxes[place]) {
                sum = sum.multiply(by).add(BigInteger.valueOf(field));
            }
        }
        return sum.multiply(by).add(BigInteger.valueOf(seed)).intValue();
    }

    // 7: "Sets what a player presses from now on, 0 at first."; "the input, 0 to 31"
    private static void press() {
        for (int players = 1; players <= 3; players++) {
            Rollbacker x = Games.runners(players);
            for (int player = 0; player < players; player++) {
                int number = player;
                int before = 0;
                for (int input = 0; input < 32; input++) {
                    int now = input;
                    Check.gives("7 input " + input, () -> x.press(number, now), before);
                    before = input;
                }
                Check.fails("7 too small", () -> x.press(number, -1), Games.ARGUMENT);
                Check.fails("7 too great", () -> x.press(number, 32), Games.ARGUMENT);
                Check.gives("7 as it was", () -> x.press(number, 0), 31);
            }
            int none = players;
            Check.fails("7 no player", () -> x.press(none, 0), Games.INDEX);
            Check.fails("7 no player", () -> x.press(-1, 0), Games.INDEX);
        }
    }

    // 8: "the delay, 1 to 9 ticks"; "Returns the delay before."
    private static void setDelay() {
        Rollbacker x = Games.runners(3);
        for (int i = 0; i < 9; i++) {
            int peer = i / 3;
            int to = i % 3;
            if (peer == to) {
                Check.fails("8 both are the same", () -> x.setDelay(peer, to, 1), Games.ARGUMENT);
                continue;
            }
            int before = 1;
            for (int delay = 1; delay <= 9; delay++) {
                int ticks = delay;
                Check.gives("8 delay " + delay, () -> x.setDelay(peer, to, ticks), before);
                before = delay;
            }
            Check.fails("8 too short", () -> x.setDelay(peer, to, 0), Games.ARGUMENT);
            Check.fails("8 too long", () -> x.setDelay(peer, to, 10), Games.ARGUMENT);
            Check.gives("8 as it was", () -> x.setDelay(peer, to, 9), 9);
        }
        Rollbacker alone = Games.runners(1);
        Check.fails("8 there is no other one", () -> alone.setDelay(0, 1, 1), Games.INDEX);
        Check.fails("8 there is no other one", () -> alone.setDelay(0, 0, 1), Games.ARGUMENT);
    }

    // 9: "how many, 0 to 50"; "in place of an earlier number"; "Returns how many of the earlier number were not sent
    // yet."
    private static void lose() {
        Rollbacker x = Games.runners(2);
        int before = 0;
        for (int many : new int[] {0, 1, 49, 50, 0, 50}) {
            int due = before;
            Check.gives("9 many " + many, () -> x.lose(0, 1, many), due);
            before = many;
        }
        Check.fails("9 too few", () -> x.lose(0, 1, -1), Games.ARGUMENT);
        Check.fails("9 too many", () -> x.lose(0, 1, 51), Games.ARGUMENT);
        x.tick(20);
        Check.gives("9 thirty are left", () -> x.lose(0, 1, 50), 30);
        Check.gives("9 they are not added", () -> x.lose(0, 1, 20), 50);
        x.tick(19);
        Check.gives("9 one is left", () -> x.lose(0, 1, 1), 1);
        x.tick(1);
        Check.gives("9 none is left", () -> x.lose(0, 1, 0), 0);
        x.tick(5);
        Check.gives("9 none is less than none", () -> x.lose(0, 1, 0), 0);
        Check.gives("9 the other link", () -> x.lose(1, 0, 0), 0);
    }

    // 10: "the number of ticks, 1 to 20"; "or the tick would be greater than 400"
    private static void tick() {
        Rollbacker x = Games.runners(1);
        Check.fails("10 too few", () -> x.tick(0), Games.ARGUMENT);
        Check.fails("10 too many", () -> x.tick(21), Games.ARGUMENT);
        Check.gives("10 no tick", () -> x.done(0), 0);
        Check.gives("10 the least", () -> x.tick(1), 1);
        Check.gives("10 the most", () -> x.tick(20), 21);
        Check.gives("10 that many steps", () -> x.done(0), 21);
        Games.pass(x, 378);
        Check.fails("10 two at 399", () -> x.tick(2), Games.ARGUMENT);
        Check.fails("10 so many that it goes round", () -> x.tick(MAX), Games.ARGUMENT);
        Check.gives("10 one at 399", () -> x.tick(1), 400);
        Check.fails("10 one at 400", () -> x.tick(1), Games.ARGUMENT);
        Check.fails("10 none at 400", () -> x.tick(0), Games.ARGUMENT);
    }

    /** Peer 0 owes two steps of ten: player 1 holds down, and all of its packets were lost up to the tenth. */
    private static Rollbacker owing() {
        Rollbacker x = Games.runners(2);
        x.lose(1, 0, 9);
        x.press(1, 8);
        x.tick(11);
        return x;
    }

    // 11: "how many steps a peer has done, those that it owes not counted"; 12: "how many steps a peer owes"
    private static void doneAndOwed() {
        Rollbacker x = owing();
        Check.gives("11 without those owed", () -> x.done(0), 8);
        Check.gives("12 the others", () -> x.owed(0), 2);
        Check.fails("20 what is owed is not done", () -> x.hash(0, 8), Games.ELEMENT);
        Check.gives("20 the last that is done", () -> x.hash(0, 7), x.loneHash(7));
        Check.gives("13 confirmed are those done", () -> x.confirmed(0), 8);
        Check.gives("14 known are more", () -> x.known(0, 1), 10);
        // Down eight times: 4, 8 - 1, 11 - 1, 14 - 1, 17 - 2, 19 - 2, 21 - 2, 23 - 2.
        Games.is("18 behind those done", x, 1, Games.Y, 1117, Games.VY, 21);
        x.tick(1);
        Check.gives("11 all again", () -> x.done(0), 11);
        Check.gives("12 none", () -> x.owed(0), 0);
        Rollbacker last = Games.runners(1);
        Games.pass(last, 150);
        Check.gives("11 the most", () -> last.done(0), 150);
        last.tick(20);
        Check.gives("11 the most", () -> last.done(0), 150);
    }

    // 14: "Returns of how many steps a peer knows the input of a player."
    private static void known() {
        Rollbacker x = Games.runners(2);
        Check.gives("14 none of its own", () -> x.known(0, 0), 0);
        Check.gives("14 none of the other", () -> x.known(0, 1), 0);
        x.tick(1);
        Check.gives("14 its own at once", () -> x.known(0, 0), 1);
        Check.gives("14 none of the other", () -> x.known(0, 1), 0);
        Games.pass(x, 149);
        Check.gives("14 all of its own", () -> x.known(0, 0), 150);
        Check.gives("14 but one of the other", () -> x.known(0, 1), 149);
        x.tick(1);
        Check.gives("14 all of the other", () -> x.known(0, 1), 150);
        x.tick(20);
        Check.gives("14 there are no more", () -> x.known(0, 1) + x.known(1, 0), 300);
    }

    // 15: "how often a peer has stalled"; 16: "how many steps a peer has taken back, in all"
    private static void stallsAndTakenBack() {
        Rollbacker x = owing();
        Check.gives("15 at the tick 11 alone", () -> x.stalls(0), 1);
        Check.gives("16 ten", () -> x.takenBack(0), 10);
        Check.gives("15 none", () -> x.stalls(1), 0);
        Check.gives("16 none", () -> x.takenBack(1), 0);
        x.tick(3);
        Check.gives("15 once, as long as it owes", () -> x.stalls(0), 1);
        Check.gives("16 no more", () -> x.takenBack(0), 10);
        Rollbacker y = Games.runners(2);
        for (int changes = 0; changes <= 4; changes++) {
            int due = changes;
            Check.gives("16 one at each change, in all", () -> y.takenBack(0), due);
            Check.gives("16 none at peer 1", () -> y.takenBack(1), 0);
            Check.gives("31 with these", y::steps, 7L * changes);
            y.press(1, 8 - changes);
            y.tick(3);
        }
        Rollbacker most = Games.runners(1);
        Games.pass(most, 150);
        Check.gives("15 none", () -> most.stalls(0), 0);
        Games.pass(most, 250);
        Check.gives("15 all that are left", () -> most.stalls(0), 250);
    }

    // 17: "Returns how many packets have not arrived yet."
    private static void flying() {
        Rollbacker building = new Rollbacker();
        Check.gives("17 not started", building::flying, 0);
        Rollbacker x = Games.runners(3);
        for (int i = 0; i < 9; i++) {
            if (i / 3 != i % 3) {
                x.setDelay(i / 3, i % 3, 9);
            }
        }
        for (int tick = 1; tick <= 12; tick++) {
            x.tick(1);
            int due = 6 * Math.min(9, tick);
            Check.gives("17 at the tick " + tick, x::flying, due);
        }
        for (int i = 0; i < 9; i++) {
            if (i / 3 != i % 3) {
                x.lose(i / 3, i % 3, 50);
            }
        }
        x.tick(8);
        Check.gives("17 the last of each", x::flying, 6);
        x.tick(1);
        Check.gives("17 none", x::flying, 0);
    }

    // 18: "the field, 0 to 14"
    private static void field() {
        Rollbacker x = new Rollbacker();
        for (int place = 0; place < 16; place++) {
            x.addBox(Games.WALL, 300 + place, 400, 20 + place, 9, 0, -1);
        }
        x.start(3);
        for (int peer = 0; peer < 3; peer++) {
            for (int place = 0; place < 16; place++) {
                int[] due = {1, 3, 300 + place, 400, 0, 0, 20 + place, 9, -1, 0, 0, -1, 0, 0, 0};
                if (place % 15 > 0) {
                    continue;
                }
                for (int field = 0; field < 15; field++) {
                    int[] at = {peer, place, field};
                    Check.gives("18 field " + field, () -> x.field(at[0], at[1], at[2]), due[field]);
                }
                int[] at = {peer, place};
                Check.fails("18 field 15", () -> x.field(at[0], at[1], 15), Games.ARGUMENT);
                Check.fails("18 field -1", () -> x.field(at[0], at[1], -1), Games.ARGUMENT);
            }
            int at = peer;
            Check.fails("18 place 16", () -> x.field(at, 16, 0), Games.ELEMENT);
            Check.fails("18 place -1", () -> x.field(at, -1, 0), Games.ELEMENT);
        }
        Check.fails("18 peer 3", () -> x.field(3, 0, 0), Games.INDEX);
    }

    // 19: "Returns how many boxes are in this world."
    private static void boxes() {
        for (int many = 0; many <= 16; many++) {
            Rollbacker x = new Rollbacker();
            for (int i = 0; i < many; i++) {
                Games.box(x, Games.BALL, 100 + 100 * i, 1000, -1);
            }
            x.start(2);
            int due = many;
            Check.gives("19", () -> x.boxes(0) * 100 + x.boxes(1), 101 * due);
        }
        // A shot makes it full, and is gone again.
        Rollbacker x = new Rollbacker();
        Games.box(x, Games.BALL, 50, 3000, Games.script(x, "f"));
        for (int i = 1; i < 15; i++) {
            Games.box(x, Games.BALL, 100 + 100 * i, 1000, -1);
        }
        x.start(1);
        Check.gives("19 one place is empty", () -> x.boxes(0), 15);
        x.tick(1);
        Check.gives("19 full", () -> x.boxes(0), 16);
        x.tick(20);
        Check.gives("19 one place is empty again", () -> x.boxes(0), 15);
    }

    // 20: "begun with 17; for each place with a box [..] all going round as ints do"
    private static void hash() {
        Rollbacker x = new Rollbacker();
        for (int place = 0; place < 16; place++) {
            x.addBox(Games.WALL, 3840, 3840 - 3 * place, 255, 9, 0, -1);
            x.push(place, place - 8, 8 - place);
        }
        x.start(1);
        x.tick(3);
        int[][] boxes = new int[16][];
        for (int place = 0; place < 16; place++) {
            boxes[place] = new int[] {
                1, 3, 3840, 3840 - 3 * place, place - 8, 8 - place, 255, 9, -1, 0, 0, -1, 0, 0, 0};
        }
        Check.fails("20 step -1", () -> x.hash(0, -1), Games.ELEMENT);
        Check.gives("20 the first step", () -> x.hash(0, 0), wideDigest(1, boxes));
        Check.gives("20 the last step", () -> x.hash(0, 2), wideDigest(1, boxes));
        Check.fails("20 step 3", () -> x.hash(0, 3), Games.ELEMENT);
        Check.fails("20 a great one", () -> x.hash(0, MAX), Games.ELEMENT);
        // Places without a box, ahead, between and behind, are left out.
        Rollbacker y = new Rollbacker();
        int end = Games.script(y, "e");
        for (int place = 0; place < 5; place++) {
            Games.box(y, Games.WALL, 1000, 1000, place % 2 == 0 ? end : -1);
        }
        y.start(1);
        y.tick(1);
        int[] wall = {1, 3, 1000, 1000, 0, 0, 10, 2, -1, 0, 0, -1, 0, 0, 0};
        Check.gives("20 two of five", () -> y.hash(0, 0), Games.digest(1, null, wall, null, wall, null));
        // A negative seed is added as it is.
        Rollbacker z = Games.scripted(Games.WALL, "r1 r1 r1 r1 e");
        z.tick(1);
        int seed = 1;
        boolean isNegative = false;
        for (int i = 0; i < 4; i++) {
            seed = 1103515245 * seed + 12345;
            isNegative |= seed < 0;
        }
        Check.holds("20 it went round", isNegative);
        int last = seed;
        Check.gives("20 the seed alone", () -> z.hash(0, 0), Games.digest(last));
    }

    // 21: "Throws NoSuchElementException if a player has not made an input for this step"
    private static void loneHash() {
        Rollbacker x = Games.runners(3);
        Check.fails("21 none yet", () -> x.loneHash(0), Games.ELEMENT);
        x.lose(0, 2, 50);
        x.lose(1, 2, 50);
        x.tick(15);
        Check.gives("21 made by all", () -> x.known(0, 0) * 10000 + x.known(1, 1) * 100 + x.known(2, 2), 151510);
        Check.gives("21 the last one", () -> x.loneHash(9), x.hash(0, 9));
        Check.fails("21 not by player 2", () -> x.loneHash(10), Games.ELEMENT);
        Check.gives("21 the first one", () -> x.loneHash(0), x.hash(2, 0));
        Check.fails("21 none ahead of it", () -> x.loneHash(-1), Games.ELEMENT);
        Check.fails("21 too small", () -> x.loneHash(MIN), Games.ELEMENT);
        Check.fails("21 too great", () -> x.loneHash(MAX), Games.ELEMENT);
        // Steps that are owed have their inputs.
        Rollbacker y = owing();
        Check.gives("21 those that are owed", () -> y.loneHash(9), y.hash(1, 9));
        Check.fails("21 and no more", () -> y.loneHash(10), Games.ELEMENT);
    }

    // 22: "Returns the hash of the world of the lone run behind the second step, if the player had made this input for
    // the first one."
    private static void hashWith() {
        for (int players = 1; players <= 3; players++) {
            Rollbacker x = Games.runners(players);
            x.press(0, 2);
            x.tick(5);
            int last = 4;
            for (int i = 0; i < players; i++) {
                int player = i;
                for (int input : new int[] {0, 31}) {
                    int due = changed(players, player, 4, input).loneHash(4);
                    Check.gives("22 the last step", () -> x.hashWith(last, player, input, last), due);
                    int first = changed(players, player, 0, input).loneHash(4);
                    Check.gives("22 the first step", () -> x.hashWith(0, player, input, last), first);
                    int only = changed(players, player, 0, input).loneHash(0);
                    Check.gives("22 the first step alone", () -> x.hashWith(0, player, input, 0), only);
                }
                Check.fails("22 input 32", () -> x.hashWith(0, player, 32, 0), Games.ARGUMENT);
                Check.fails("22 input -1", () -> x.hashWith(0, player, -1, 0), Games.ARGUMENT);
                Check.fails("22 ahead by one", () -> x.hashWith(4, player, 0, 3), Games.ARGUMENT);
                Check.fails("22 ahead of all", () -> x.hashWith(0, player, 0, -1), Games.ARGUMENT);
                Check.fails("22 no first one", () -> x.hashWith(-1, player, 0, -1), Games.ELEMENT);
                Check.fails("22 no first one", () -> x.hashWith(-1, player, 0, 4), Games.ELEMENT);
                Check.fails("22 no second one", () -> x.hashWith(4, player, 0, 5), Games.ELEMENT);
                Check.fails("22 neither", () -> x.hashWith(5, player, 0, 5), Games.ELEMENT);
                Check.fails("22 far apart", () -> x.hashWith(MIN, player, 0, MAX), Games.ELEMENT);
                Check.fails("22 the wrong way", () -> x.hashWith(MAX, player, 0, MIN), Games.ARGUMENT);
            }
            Rollbacker all = Games.runners(players);
            all.press(0, 2);
            Games.pass(all, 149);
            Rollbacker other = Games.runners(players);
            other.press(0, 2);
            Games.pass(other, 149);
            all.tick(1);
            other.press(0, 9);
            other.tick(1);
            int due = other.loneHash(149);
            Check.gives("22 the last step of all", () -> all.hashWith(149, 0, 9, 149), due);
            Check.gives("22 up to the last step of all", () -> all.hashWith(0, 0, 2, 149), all.loneHash(149));
            Check.fails("22 behind all steps", () -> all.hashWith(149, 0, 9, 150), Games.ELEMENT);
            Check.fails("22 behind all steps", () -> all.hashWith(150, 0, 9, 150), Games.ELEMENT);
            int none = players;
            Check.fails("22 no player", () -> x.hashWith(0, none, 0, 0), Games.ARGUMENT);
            Check.fails("22 no player", () -> x.hashWith(0, -1, 0, 0), Games.ARGUMENT);
            Check.gives("22 it was never so", () -> x.loneHash(4), changed(players, 0, 4, 2).loneHash(4));
        }
    }

    /** A game of 5 ticks in which player 0 holds right, but for one step of one player. */
    private static Rollbacker changed(int players, int player, int step, int input) {
        Rollbacker x = Games.runners(players);
        for (int now = 0; now < 5; now++) {
            for (int i = 0; i < players; i++) {
                x.press(i, now == step && i == player ? input : i == 0 ? 2 : 0);
            }
            x.tick(1);
        }
        return x;
    }

    // 23: "the field, 2 to 7"; "the value, 0 to 48"; "or the peer has done no step"
    private static void cheat() {
        Rollbacker x = new Rollbacker();
        for (int place = 0; place < 16; place++) {
            x.addBox(Games.WALL, 300 + place, 400, 20 + place, 9, 0, -1);
        }
        x.start(2);
        Check.fails("23 no step", () -> x.cheat(0, 0, 2, 0), Games.ELEMENT);
        x.tick(1);
        for (int place : new int[] {0, 15}) {
            int[] before = {300 + place, 400, 0, 0, 20 + place, 9};
            for (int field = 2; field <= 7; field++) {
                int at = field;
                Check.gives("23 field " + field, () -> x.cheat(0, place, at, 48), before[field - 2]);
                Check.gives("23 field " + field, () -> x.cheat(0, place, at, 0), 48);
                Check.fails("23 value 49", () -> x.cheat(0, place, at, 49), Games.ARGUMENT);
                Check.fails("23 value -1", () -> x.cheat(0, place, at, -1), Games.ARGUMENT);
                Check.gives("23 field " + field, () -> x.field(0, place, at), 0);
                Check.gives("23 peer 1", () -> x.field(1, place, at), before[field - 2]);
            }
            Check.fails("23 field 1", () -> x.cheat(0, place, 1, 1), Games.ARGUMENT);
            Check.fails("23 field 8", () -> x.cheat(0, place, 8, 1), Games.ARGUMENT);
        }
        Check.fails("23 place 16", () -> x.cheat(0, 16, 2, 0), Games.ELEMENT);
        Check.fails("23 place -1", () -> x.cheat(0, -1, 2, 0), Games.ELEMENT);
        // Behind all steps that it has done: two that are owed are not among them.
        Rollbacker y = owing();
        int behind = y.hash(0, 6);
        int ahead = y.hash(0, 7);
        y.cheat(0, 0, Games.HITS, 5);
        Check.gives("23 not the step ahead", () -> y.hash(0, 6), behind);
        Check.gives("23 the last step", () -> y.hash(0, 7) != ahead, true);
        y.tick(1);
        Games.is("23 those that were owed go on from it", y, 0, Games.HITS, 5);
    }

    // 24: "those that were cancelled included"; 25: "how many effects a peer has cancelled"
    private static void shownAndCancelled() {
        Rollbacker none = Games.runners(1);
        none.tick(20);
        Check.gives("24 none", () -> none.shown(0) + none.cancelled(0), 0);
        Rollbacker full = crowd();
        Check.gives("24 all couples", () -> full.shown(0), 120);
        Check.gives("25 alone, none is foretold", () -> full.cancelled(0), 0);
    }

    /** 16 balls, each of which overlaps all others. */
    private static Rollbacker crowd() {
        Rollbacker x = new Rollbacker();
        for (int i = 0; i < 16; i++) {
            x.addBox(Games.BALL, 1000 + i, 1000 + 2 * i, 255, 1, 0, -1);
        }
        x.start(1);
        x.tick(1);
        return x;
    }

    // 26: "Throws NoSuchElementException if it has never done this step"
    private static void effects() {
        Rollbacker x = owing();
        Check.gives("26 the first step", () -> x.effects(0, 0), 0);
        Check.gives("26 the last one, which is owed", () -> x.effects(0, 9), 0);
        Check.fails("26 one that was never done", () -> x.effects(0, 10), Games.ELEMENT);
        Check.fails("26 step -1", () -> x.effects(0, -1), Games.ELEMENT);
        Rollbacker full = crowd();
        Check.gives("26 all couples", () -> full.effects(0, 0), 120);
        Rollbacker last = Games.runners(1);
        Games.pass(last, 160);
        Check.gives("26 the step 149", () -> last.effects(0, 149), 0);
        Check.fails("26 the step 150", () -> last.effects(0, 150), Games.ELEMENT);
    }

    // 27: "or there is no such effect"; "1000 times its kind plus 20 times its first place plus its second place"
    private static void effectAt() {
        Rollbacker full = crowd();
        Check.gives("27 the first one", () -> full.effectAt(0, 0, 0), 4001);
        Check.gives("27 the last of place 0", () -> full.effectAt(0, 0, 14), 4015);
        Check.gives("27 the first of place 1", () -> full.effectAt(0, 0, 15), 4022);
        Check.gives("27 the last one", () -> full.effectAt(0, 0, 119), 4000 + 20 * 14 + 15);
        Check.fails("27 none behind it", () -> full.effectAt(0, 0, 120), Games.ELEMENT);
        Check.fails("27 none ahead", () -> full.effectAt(0, 0, -1), Games.ELEMENT);
        Check.fails("27 too great", () -> full.effectAt(0, 0, MAX), Games.ELEMENT);
        Check.fails("27 too small", () -> full.effectAt(0, 0, MIN), Games.ELEMENT);
        // Kinds 1 to 4 in one step: the ball 6 fires, and its shot, put at 0, meets the runner 1 in the step 2.
        Rollbacker x = new Rollbacker();
        Games.box(x, Games.BALL, 3000, 3000, Games.script(x, "e"));
        int fires = Games.script(x, "f");
        x.addBox(Games.RUNNER, 1070, 1000, 10, 9, 2, -1);
        Games.box(x, Games.BALL, 1000, 1000, fires);
        Games.box(x, Games.BALL, 1070, 2000, -1);
        Games.box(x, Games.BALL, 1000, 2000, fires);
        Games.pushed(x, Games.BALL, 300, 1000, 1, 0);
        Games.pushed(x, Games.BALL, 325, 1000, -1, 0);
        Games.pushed(x, Games.BALL, 300, 2000, -2, 0);
        Games.box(x, Games.WALL, 275, 2000, -1);
        x.start(1);
        x.tick(2);
        Check.gives("27 nothing met yet", () -> x.effects(0, 0) + x.effects(0, 1), 0);
        x.tick(1);
        Check.gives("27 one of each kind", () -> x.effects(0, 2), 4);
        Check.gives("27 a shot and a runner", () -> x.effectAt(0, 2, 0), 1001);
        Check.gives("27 a shot and a ball, that is first", () -> x.effectAt(0, 2, 1), 2000 + 20 * 3 + 9);
        Check.gives("27 two balls", () -> x.effectAt(0, 2, 2), 4000 + 20 * 5 + 6);
        Check.gives("27 a wall", () -> x.effectAt(0, 2, 3), 3000 + 20 * 7 + 8);
    }

    // 28: "Returns the first step, confirmed by two peers, behind which their worlds differ."
    private static void difference() {
        for (int step : new int[] {0, 1, 148, 149}) {
            Rollbacker x = Games.runners(2);
            Games.pass(x, step + 1);
            x.cheat(0, 0, Games.HITS, 5);
            boolean isLast = step == 149;
            Check.fails("28 not confirmed", () -> x.difference(0, 1), Games.ELEMENT);
            x.tick(1);
            Check.gives("28 confirmed", () -> x.confirmed(0), isLast ? 150 : step + 1);
            Check.gives("28 step " + step, () -> x.difference(0, 1), step);
            Check.gives("28 step " + step, () -> x.difference(1, 0), step);
            Check.fails("28 a peer and itself", () -> x.difference(0, 0), Games.ELEMENT);
        }
        Rollbacker alone = Games.runners(1);
        alone.tick(1);
        alone.cheat(0, 0, Games.HITS, 5);
        Check.fails("28 alone", () -> alone.difference(0, 0), Games.ELEMENT);
        Check.fails("28 there is no other one", () -> alone.difference(0, 1), Games.INDEX);
        Rollbacker same = Games.runners(2);
        same.tick(1);
        same.cheat(0, 0, Games.HITS, 5);
        same.cheat(1, 0, Games.HITS, 5);
        same.tick(5);
        Check.fails("28 both cheat alike", () -> same.difference(0, 1), Games.ELEMENT);
        same.cheat(0, 0, Games.HITS, 5);
        same.tick(5);
        Check.fails("28 nothing was changed", () -> same.difference(0, 1), Games.ELEMENT);
    }

    // 29: "Returns the lowest place whose boxes differ behind this step."; 30: "Returns the lowest field that differs
    // there."
    private static void differentPlaceAndField() {
        for (int place : new int[] {0, 1, 14, 15}) {
            for (int field = 2; field <= 7; field++) {
                int at = field;
                Rollbacker x = new Rollbacker();
                for (int i = 0; i < 16; i++) {
                    x.addBox(Games.WALL, 300 + i, 400, 20 + i, 9, 0, -1);
                }
                x.start(3);
                x.tick(1);
                Check.fails("29 none", () -> x.differentPlace(0, 2), Games.ELEMENT);
                Check.fails("30 none", () -> x.differentField(0, 2), Games.ELEMENT);
                x.cheat(2, 15, Games.HITS, 7);
                x.cheat(2, place, field, 5);
                x.tick(1);
                Check.gives("29 place " + place, () -> x.differentPlace(0, 2), place);
                Check.gives("29 place " + place, () -> x.differentPlace(2, 1), place);
                Check.gives("30 field " + field, () -> x.differentField(0, 2), at);
                Check.gives("30 field " + field, () -> x.differentField(2, 1), at);
                Check.fails("29 those that do not differ", () -> x.differentPlace(0, 1), Games.ELEMENT);
                Check.fails("30 those that do not differ", () -> x.differentField(1, 0), Games.ELEMENT);
                Check.fails("29 peer 3", () -> x.differentPlace(0, 3), Games.INDEX);
                Check.fails("30 peer -1", () -> x.differentField(-1, 0), Games.INDEX);
            }
        }
    }

    // 31: "those that were taken back included"; 32: "both converted to float"; "if no step was done"
    private static void stepsAndWaste() {
        Rollbacker x = Games.runners(2);
        Check.gives("31 none", x::steps, 0L);
        Check.fails("32 none", x::waste, Games.ELEMENT);
        x.press(1, 8);
        x.tick(1);
        Check.gives("31 one each", x::steps, 2L);
        Check.gives("32 none of two", x::waste, 0f);
        x.tick(1);
        Check.gives("31 two each, and one again", x::steps, 5L);
        Check.gives("32 one of five", x::waste, 1f / 5f);
        Rollbacker y = owing();
        // Peer 0 ten, and eight again; peer 1 eleven.
        Check.gives("31 those that are owed do not count twice", y::steps, 29L);
        Check.gives("32 ten of 29", y::waste, 10f / 29f);
        Rollbacker most = Games.runners(3);
        Games.pass(most, 400);
        Check.gives("31 no more than 150 each", most::steps, 450L);
        Check.gives("32 none", most::waste, 0f);
    }

    // 33: "Tells whether, for each peer that never was cheated, each confirmed step has the hash of the lone run."
    private static void isSound() {
        Rollbacker building = new Rollbacker();
        Check.gives("33 not started", building::isSound, true);
        Rollbacker x = Games.runners(3);
        Check.gives("33 no step", x::isSound, true);
        for (int i = 0; i < 16; i++) {
            x.press(i % 3, 9 * i % 32);
            x.setDelay(i % 3, (i + 1) % 3, 1 + i % 9);
            x.tick(10);
            Check.gives("33 behind the tick " + 10 * i, x::isSound, true);
        }
        // Nothing was asked of these steps ahead of the cheating.
        Rollbacker first = Games.runners(2);
        Games.pass(first, 160);
        first.cheat(0, 0, Games.HITS, 48);
        Check.gives("33 confirmed", () -> first.confirmed(0), 150);
        Check.gives("33 the last step differs", () -> first.hash(0, 149) == first.loneHash(149), false);
        Check.gives("33 but was cheated", first::isSound, true);
        first.cheat(1, 0, Games.HITS, 48);
        Check.gives("33 so were all", first::isSound, true);
        x.cheat(0, 0, Games.HITS, 48);
        Check.gives("33 cheated, behind the last step", x::isSound, true);
        int last = x.confirmed(0) - 1;
        Check.gives("33 the hash differs", () -> x.hash(0, last) == x.loneHash(last), false);
        Check.gives("33 not at peer 1", () -> x.hash(1, last) == x.loneHash(last), true);
        // Cheated in the first step, by each peer in turn: the hash differs from there on.
        for (int players = 1; players <= 3; players++) {
            for (int i = 0; i < players; i++) {
                int peer = i;
                Rollbacker y = Games.runners(players);
                y.tick(1);
                y.cheat(peer, 0, Games.HITS, 5);
                Check.gives("33 cheated in the first step", y::isSound, true);
                y.tick(5);
                Check.gives("33 it is confirmed", () -> y.confirmed(peer) > 0, true);
                Check.gives("33 its hash differs", () -> y.hash(peer, 0) == y.loneHash(0), false);
                Check.gives("33 but was cheated in the first step", y::isSound, true);
            }
        }
    }
}
