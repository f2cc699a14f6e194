import java.math.BigInteger;

/**
 * The sentences of 'Terms' on boxes, building and a step that name a boundary case: a test for each, with the
 * sentence above it, on both sides of the boundary.
 */
public final class StepEdgeTest {
    private static final int MIN = Integer.MIN_VALUE;
    private static final int MAX = Integer.MAX_VALUE;

    public static void main(String[] args) {
        places();
        owners();
        generations();
        seeds();
        lowestEmptyPlaces();
        mostScriptsAndOperations();
        destroyedUntilTheEnd();
        runnerTimers();
        playersThatAreNotThere();
        heldSpeeds();
        justOneDirection();
        firingAtTimerZero();
        eightOperations();
        waits();
        touchedInTheStepAhead();
        speedsByScripts();
        goingOn();
        randomNumbers();
        endedByScripts();
        behindTheLastOperation();
        slowing();
        lowAndHighEdges();
        thrownBack();
        shotsAtEdges();
        overlaps();
        twoThatDoNothing();
        shotsAheadOfTheirOwners();
        goneByThen();
        lastHits();
        lesserDepth();
        noDepthLeft();
        besideWalls();
        towardsWalls();
        halfOfTheDepth();
        halfOfTheDepthAtTheLastPlaces();
        apartAtTheSamePlace();
        nearer();
        shotTimers();
        placesForShots();
        shotsByFacing();
        Check.end("StepEdgeTest");
    }

    private static int fieldOf(Rollbacker x, int place, int field) {
        return x.field(0, place, field);
    }

    /** Two boxes with halves of 10 behind the first step: x, y, vx, vy of each. */
    private static Rollbacker couple(int firstKind, int secondKind, int... numbers) {
        Rollbacker x = new Rollbacker();
        Games.pushed(x, firstKind, numbers[0], numbers[1], numbers[2], numbers[3]);
        Games.pushed(x, secondKind, numbers[4], numbers[5], numbers[6], numbers[7]);
        x.start(1);
        x.tick(1);
        return x;
    }

    /** Along y if told, along x otherwise. */
    private static Rollbacker along(boolean isY, int firstKind, int secondKind, int one, int vOne, int two, int vTwo) {
        return isY
                ? couple(firstKind, secondKind, 1000, one, 0, vOne, 1000, two, 0, vTwo)
                : couple(firstKind, secondKind, one, 1000, vOne, 0, two, 1000, vTwo, 0);
    }

    // ---- boxes

    // "A world has 16 places, numbered from 0, each of which is empty or has a box."
    private static void places() {
        Rollbacker empty = new Rollbacker();
        empty.start(1);
        Rollbacker full = new Rollbacker();
        for (int i = 0; i < 16; i++) {
            Games.box(full, Games.BALL, 100 + 100 * i, 1000, -1);
        }
        full.start(1);
        for (int ticks = 0; ticks < 2; ticks++) {
            Check.gives("an empty world", () -> empty.boxes(0), 0);
            Check.gives("a full world", () -> full.boxes(0), 16);
            for (int i = 0; i < 16; i++) {
                int place = i;
                Check.fails("empty, place " + i, () -> empty.field(0, place, Games.X), Games.ELEMENT);
                Games.is("full", full, place, Games.KIND, Games.BALL, Games.X, 100 + 100 * place);
            }
            for (int place : new int[] {MIN, -1, 16, MAX}) {
                Check.fails("full, place " + place, () -> full.field(0, place, Games.X), Games.ELEMENT);
            }
            empty.tick(1);
            full.tick(1);
        }
    }

    // "The owner of a runner is a player, that of a shot the place of the box that fired it, otherwise -1."
    private static void owners() {
        Rollbacker x = new Rollbacker();
        int end = Games.script(x, "e");
        int fire = Games.script(x, "f");
        x.addBox(Games.BALL, 100, 1000, 10, 1, 0, end);
        x.addBox(Games.RUNNER, 200, 1000, 10, 1, 0, -1);
        x.addBox(Games.RUNNER, 300, 1000, 10, 1, 2, -1);
        x.addBox(Games.BALL, 400, 1000, 10, 1, MAX, -1);
        x.addBox(Games.WALL, 500, 1000, 10, 1, MIN, -1);
        for (int place = 5; place < 15; place++) {
            Games.box(x, Games.BALL, 100 + 100 * place, 1000, -1);
        }
        x.addBox(Games.BALL, 2000, 1000, 10, 1, 1, fire);
        x.start(1);
        x.tick(1);
        Games.is("the first player", x, 1, Games.OWNER, 0);
        Games.is("the last player", x, 2, Games.OWNER, 2);
        Games.is("a ball", x, 3, Games.OWNER, -1);
        Games.is("a wall", x, 4, Games.OWNER, -1);
        Games.is("a shot from the last place", x, 0, Games.KIND, Games.SHOT, Games.OWNER, 15);
        Rollbacker y = Games.scripted(Games.BALL, "f");
        y.tick(1);
        Games.is("a shot from the first place", y, 1, Games.KIND, Games.SHOT, Games.OWNER, 0);
    }

    // "When a place gets a box, the generation of this is 1 more than that of the last one there, 1 for the first
    // one."
    private static void generations() {
        Rollbacker x = new Rollbacker();
        int end = Games.script(x, "e");
        int fire = Games.script(x, "f w20 g0");
        Games.box(x, Games.BALL, 3000, 3000, end);
        Games.box(x, Games.BALL, 1000, 1000, fire);
        x.start(1);
        // Fired in each 20th step, a shot is gone in the step in which the next one is put.
        for (int generation = 2; generation < 8; generation++) {
            x.tick(1);
            Games.is("a shot", x, 0, Games.GENERATION, generation, Games.TIMER, 20);
            Games.is("the other place", x, 1, Games.GENERATION, 1);
            x.tick(19);
        }
        Rollbacker y = Games.scripted(Games.BALL, "w3 f w9 e");
        y.tick(4);
        Games.is("the first one there", y, 1, Games.GENERATION, 1);
        Rollbacker z = new Rollbacker();
        Games.box(z, Games.BALL, 3000, 3000, Games.script(z, "e"));
        Games.box(z, Games.RUNNER, 1000, 1000, -1);
        z.start(1);
        z.tick(20);
        Check.gives("the place was empty for long", () -> z.boxes(0), 1);
        z.press(0, 16);
        z.tick(1);
        Games.is("the second one there", z, 0, Games.GENERATION, 2);
    }

    // "A world has a seed, too, 1 at first."
    private static void seeds() {
        Rollbacker x = new Rollbacker();
        Check.gives("an empty world as built", () -> x.start(1), Games.digest(1));
        x.tick(20);
        Check.gives("no random number was needed", () -> x.hash(0, 19), Games.digest(1));
        Rollbacker y = Games.scripted(Games.BALL, "r1 w1 e");
        y.tick(2);
        Check.gives("one was", () -> y.hash(0, 1), Games.digest(1103515245 + 12345));
    }

    // "Boxes are put before the game is started, each in the lowest empty place, with the facing 0, the timer 0, the
    // wait 0, and not touched."
    private static void lowestEmptyPlaces() {
        Rollbacker x = new Rollbacker();
        for (int i = 0; i < 16; i++) {
            int at = 300 * (i % 8) + 500;
            int kind = new int[] {Games.RUNNER, Games.BALL, Games.WALL}[i % 3];
            Check.gives("place " + i, () -> Games.box(x, kind, at, at, -1), i);
        }
        Check.fails("none is empty", () -> Games.box(x, Games.BALL, 50, 50, -1), Games.STATE);
        x.start(1);
        for (int place = 0; place < 16; place++) {
            Games.is("as put", x, place, Games.FACING, 0, Games.TIMER, 0, Games.WAIT, 0, Games.TOUCHED, 0);
            Games.is("as put", x, place, Games.GENERATION, 1, Games.NEXT, 0, Games.VX, 0, Games.VY, 0);
        }
    }

    // "There are at most 4 scripts, numbered from 0, of at most 12 operations each."
    private static void mostScriptsAndOperations() {
        Rollbacker x = new Rollbacker();
        for (int i = 0; i < 4; i++) {
            int speed = i + 1;
            Check.gives("script " + i, x::addScript, i);
            for (int j = 0; j < 12; j++) {
                int script = i;
                char kind = j % 2 == 0 ? 'w' : 'a';
                Check.gives("operation " + j, () -> x.addOperation(script, kind, firstNumber(kind, speed), 10 * speed), j);
            }
            Check.fails("a thirteenth", () -> x.addOperation(speed - 1, 'e', 0, 0), Games.STATE);
            Games.box(x, Games.BALL, 500 + 600 * i, 500, i);
        }
        Check.fails("a fifth", x::addScript, Games.STATE);
        x.start(1);
        x.tick(6);
        for (int place = 0; place < 4; place++) {
            Games.is("ahead of the last one", x, place, Games.NEXT, 11, Games.SCRIPT, place, Games.VX, 5 * (place + 1));
        }
        x.tick(1);
        for (int place = 0; place < 4; place++) {
            Games.is("all 12 done", x, place, Games.NEXT, 12, Games.SCRIPT, -1, Games.VX, 6 * (place + 1));
            Games.is("all 12 done", x, place, Games.VY, 60 * (place + 1));
        }
        Rollbacker none = new Rollbacker();
        Games.box(none, Games.BALL, 500, 500, -1);
        none.start(1);
        none.tick(1);
        Games.is("no script", none, 0, Games.SCRIPT, -1, Games.NEXT, 0, Games.X, 500);
    }

    private static int firstNumber(char kind, int speed) {
        return kind == 'w' ? 1 : speed;
    }

    // ---- a step

    // "What is destroyed is there until its end, but does nothing any more, and nothing touches it; what is fired
    // comes at its end."
    private static void destroyedUntilTheEnd() {
        Rollbacker x = new Rollbacker();
        int end = Games.script(x, "e");
        int fire = Games.script(x, "f");
        Games.box(x, Games.BALL, 3000, 3000, end);
        Games.box(x, Games.BALL, 1000, 1000, fire);
        for (int place = 2; place < 16; place++) {
            Games.box(x, Games.BALL, 100 * place, 2000, -1);
        }
        x.start(1);
        x.tick(1);
        Check.gives("its place is free at the end", () -> x.boxes(0), 16);
        Games.is("for what is fired", x, 0, Games.KIND, Games.SHOT, Games.GENERATION, 2, Games.X, 1000);
        Rollbacker y = new Rollbacker();
        Games.box(y, Games.BALL, 1000, 1000, Games.script(y, "f e"));
        y.push(0, 7, 7);
        y.addBox(Games.BALL, 1004, 1000, 200, 1, 0, -1);
        y.start(1);
        y.tick(1);
        Games.is("it did not move any more", y, 0, Games.KIND, Games.SHOT, Games.X, 1000, Games.Y, 1000);
        Games.is("nothing touched it", y, 1, Games.TOUCHED, 0, Games.X, 1004);
        Check.gives("what is fired meets nothing yet", () -> y.effects(0, 0), 0);
        y.tick(1);
        Check.gives("but does so in the next step", () -> y.effectAt(0, 1, 0), 2001);
    }

    // ---- inputs

    // "The timer of a runner greater than 0 decreases by 1."
    private static void runnerTimers() {
        Rollbacker x = Games.runners(1);
        x.tick(2);
        Games.is("0 stays", x, 0, Games.TIMER, 0);
        x.press(0, 16);
        x.tick(1);
        x.press(0, 0);
        for (int timer = 8; timer > 0; timer--) {
            Games.is("greater than 0", x, 0, Games.TIMER, timer);
            x.tick(1);
        }
        Games.is("down to 0", x, 0, Games.TIMER, 0);
        x.tick(1);
        Games.is("and no further", x, 0, Games.TIMER, 0);
    }

    // "with the input of its player, or 0 if there is no such one"
    private static void playersThatAreNotThere() {
        for (int players = 1; players <= 3; players++) {
            Rollbacker x = new Rollbacker();
            for (int owner = 0; owner < 3; owner++) {
                x.addBox(Games.RUNNER, 500 + 1000 * owner, 1000, 10, 1, owner, -1);
            }
            x.push(2, 40, 0);
            x.start(players);
            for (int player = 0; player < players; player++) {
                x.press(player, 16 + 8);
            }
            x.tick(1);
            for (int owner = 0; owner < 3; owner++) {
                // A peer foretells nothing for the others yet.
                boolean is = owner < players;
                int peer = is ? owner : 0;
                int place = owner;
                Check.gives(players + " players, y of " + owner, () -> x.field(peer, place, Games.Y), is ? 1004 : 1000);
                Check.gives(players + " players, timer", () -> x.field(peer, place, Games.TIMER), is ? 8 : 0);
            }
            int last = players - 1;
            Check.gives("it goes on", () -> x.field(last, 2, Games.X), 2540);
        }
    }

    // "vx increases by 4 for right and decreases by 4 for left, vy so for down and up, and both are held from -48 to
    // 48"
    private static void heldSpeeds() {
        for (int speed = 40; speed <= 48; speed++) {
            int due = Math.min(48, speed + 4);
            isHeld(speed, speed, 2 + 8, due, due);
            isHeld(-speed, -speed, 1 + 4, -due, -due);
            isHeld(speed, -speed, 2 + 4, due, -due);
            isHeld(speed, -speed, 1 + 8, speed - 4, 4 - speed);
            // Both are told: it is held behind both.
            isHeld(speed, -speed, 15, speed, -speed);
            isHeld(speed, -speed, 0, speed, -speed);
        }
        // A script makes it greater behind that; the next step holds it ahead of the motion, without an input too.
        for (int input : new int[] {0, 15}) {
            Rollbacker x = new Rollbacker();
            Games.box(x, Games.RUNNER, 1000, 1000, Games.script(x, "v48,-48 a1,-1 w1 v-48,48 a-48,48"));
            x.start(1);
            x.press(0, input);
            x.tick(1);
            Games.is("49", x, 0, Games.X, 1049, Games.Y, 951, Games.VX, 43, Games.VY, -43);
            x.tick(1);
            Games.is("96", x, 0, Games.X, 953, Games.Y, 1047, Games.VX, -84, Games.VY, 84);
            x.tick(1);
            Games.is("held", x, 0, Games.X, 905, Games.Y, 1095, Games.VX, -42, Games.VY, 42);
        }
        Rollbacker ball = Games.scripted(Games.BALL, "a48,-48 a48,-48");
        ball.tick(2);
        Games.is("a ball is not held", ball, 0, Games.X, 1192, Games.Y, 808, Games.VX, 96, Games.VY, -96);
    }

    private static void isHeld(int vx, int vy, int input, int heldX, int heldY) {
        Rollbacker x = new Rollbacker();
        Games.pushed(x, Games.RUNNER, 1000, 1000, vx, vy);
        x.start(1);
        x.press(0, input);
        x.tick(1);
        Games.is(vx + " " + vy + " with " + input, x, 0, Games.X, 1000 + heldX, Games.Y, 1000 + heldY);
    }

    // "if just one of the four directions is told, the facing becomes 0 for right, 1 for down, 2 for left, 3 for up"
    private static void justOneDirection() {
        int[] alone = {8, 1, 4, 2};
        int[] facing = {1, 2, 3, 0};
        for (int i = 0; i < 4; i++) {
            int before = facing[(i + 1) % 4];
            for (int input = 0; input < 32; input++) {
                Rollbacker x = Games.runners(1);
                x.press(0, alone[(i + 1) % 4]);
                x.tick(1);
                x.press(0, input);
                x.tick(1);
                int due = before;
                for (int j = 0; j < 4; j++) {
                    due = (input & 15) == alone[j] ? facing[j] : due;
                }
                Games.is("input " + input + " behind " + before, x, 0, Games.FACING, due);
            }
        }
    }

    // "if fire is told and the timer is 0, it fires, and the timer becomes 8"
    private static void firingAtTimerZero() {
        Rollbacker x = Games.runners(1);
        x.press(0, 16);
        for (int step = 0; step < 17; step++) {
            x.tick(1);
            int now = step;
            Check.gives("shots in the step " + step, () -> x.boxes(0), 2 + now / 8);
            Games.is("in the step " + step, x, 0, Games.TIMER, 8 - step % 8);
        }
        Rollbacker y = Games.runners(1);
        y.press(0, 16);
        y.tick(1);
        y.press(0, 15);
        y.tick(10);
        Check.gives("fire is not told", () -> y.boxes(0), 2);
        Games.is("fire is not told", y, 0, Games.TIMER, 0);
        y.press(0, 31);
        y.tick(1);
        Check.gives("fire is told", () -> y.boxes(0), 3);
    }

    // ---- scripts

    // "does operations from its place on, at most 8 in a step"; "if 8 operations were done in this step, the script
    // has stopped likewise, whatever comes next"
    private static void eightOperations() {
        for (int many = 0; many <= 12; many++) {
            Rollbacker x = Games.scripted(Games.BALL, "a1,0 ".repeat(many).trim());
            x.tick(1);
            int done = Math.min(8, many);
            Games.is(many + " operations", x, 0, Games.VX, done, Games.NEXT, done, Games.SCRIPT, -1);
            x.tick(1);
            Games.is("a step later", x, 0, Games.VX, done, Games.NEXT, done, Games.SCRIPT, -1);
        }
        // The wait of the eighth applies ahead of that: it goes on in the next step.
        Rollbacker eighth = Games.scripted(Games.BALL, "a1,0 ".repeat(7) + "w1 a1,0 a1,0 a1,0 a1,0");
        eighth.tick(1);
        Games.is("w is the eighth", eighth, 0, Games.NEXT, 8, Games.SCRIPT, 0, Games.WAIT, 0, Games.VX, 7);
        eighth.tick(1);
        Games.is("then on", eighth, 0, Games.NEXT, 12, Games.SCRIPT, -1, Games.VX, 11);
        Rollbacker ninth = Games.scripted(Games.BALL, "a1,0 ".repeat(8) + "w1 a1,0");
        ninth.tick(2);
        Games.is("w is the ninth", ninth, 0, Games.NEXT, 8, Games.SCRIPT, -1, Games.WAIT, 0, Games.VX, 8);
        for (String next : new String[] {"w9", "t", "v9,9", "a9,9", "g0", "f", "r9", "e"}) {
            Rollbacker x = Games.scripted(Games.BALL, "a1,0 ".repeat(8) + next);
            x.tick(2);
            Games.is("the ninth is " + next, x, 0, Games.NEXT, 8, Games.SCRIPT, -1, Games.VX, 8, Games.VY, 0);
            Games.is("the ninth is " + next, x, 0, Games.WAIT, 0);
            Check.gives("the ninth is " + next, () -> x.boxes(0), 1);
        }
        // Where it goes on with g counts as an operation, too.
        Rollbacker around = Games.scripted(Games.BALL, "g0");
        around.tick(1);
        Games.is("g eight times", around, 0, Games.NEXT, 0, Games.SCRIPT, -1);
        Rollbacker seven = Games.scripted(Games.BALL, "a1,0 a1,0 a1,0 a1,0 a1,0 a1,0 w1 g0");
        seven.tick(2);
        Games.is("g, six and w are eight", seven, 0, Games.VX, 12, Games.SCRIPT, 0, Games.NEXT, 7);
    }

    // "'w' n: the wait becomes n. If the wait is greater than 0 when an operation would be done, it decreases by 1,
    // and nothing more is done in this step."
    private static void waits() {
        for (int wait : new int[] {1, 2, 98, 99}) {
            Rollbacker x = Games.scripted(Games.BALL, "w" + wait + " a7,0");
            x.tick(1);
            Games.is("w" + wait, x, 0, Games.WAIT, wait - 1, Games.NEXT, 1, Games.VX, 0);
            Games.pass(x, wait - 1);
            Games.is("the last step of w" + wait, x, 0, Games.WAIT, 0, Games.NEXT, 1, Games.VX, 0);
            x.tick(1);
            Games.is("then on", x, 0, Games.WAIT, 0, Games.NEXT, 2, Games.VX, 7, Games.SCRIPT, -1);
        }
    }

    // "'t': if it was touched in the step ahead, it goes on; otherwise it stays at this place, and nothing more is
    // done in this step."; "Behind all scripts, no box is touched any more."
    private static void touchedInTheStepAhead() {
        for (int wait = 0; wait <= 2; wait++) {
            Rollbacker x = new Rollbacker();
            Games.box(x, Games.BALL, 1000, 1000, Games.script(x, (wait == 0 ? "" : "w" + wait + " ") + "t v0,7"));
            Games.box(x, Games.BALL, 1010, 1000, -1);
            x.start(1);
            x.tick(1);
            Games.is("they meet in the step 0 alone", x, 0, Games.TOUCHED, 1, Games.VY, 0);
            x.tick(2);
            Check.gives("they do not meet again", () -> x.effects(0, 1) + x.effects(0, 2), 0);
            Games.is("not touched any more", x, 0, Games.TOUCHED, 0);
            Games.is("not touched any more", x, 1, Games.TOUCHED, 0);
            // Ahead of 't' in the step 0 it was not touched yet; in the step 2 the step ahead is the step 1.
            boolean goesOn = wait <= 1;
            Games.is("wait " + wait, x, 0, Games.VY, goesOn ? 7 : 0, Games.SCRIPT, goesOn ? -1 : 0);
            Games.is("wait " + wait, x, 0, Games.NEXT, (goesOn ? 2 : 0) + (wait == 0 ? 0 : 1));
        }
        // The first 't' does not use it up for a second one in the same step.
        Rollbacker two = new Rollbacker();
        Games.box(two, Games.BALL, 1000, 1000, Games.script(two, "t t v0,7"));
        Games.box(two, Games.BALL, 1010, 1000, -1);
        two.start(1);
        two.tick(2);
        Games.is("two of them", two, 0, Games.VY, 7, Games.NEXT, 3);
    }

    // "'v' a b: vx becomes a, vy becomes b. 'a' a b: vx increases by a, vy by b."
    private static void speedsByScripts() {
        for (int a : new int[] {-48, 0, 48}) {
            for (int b : new int[] {-48, 0, 48}) {
                Rollbacker x = Games.scripted(Games.BALL, "v" + a + "," + b + " w1 a" + a + "," + b);
                x.tick(1);
                Games.is("v", x, 0, Games.VX, a, Games.VY, b, Games.X, 1000 + a, Games.Y, 1000 + b);
                x.tick(1);
                Games.is("a", x, 0, Games.VX, 2 * a, Games.VY, 2 * b, Games.X, 1000 + 3 * a, Games.Y, 1000 + 3 * b);
            }
        }
    }

    // "'g' a: it goes on at the place a."
    private static void goingOn() {
        Rollbacker last = Games.scripted(Games.BALL, "a1,0 g11 " + "a10,0 ".repeat(9) + "a5,0");
        last.tick(1);
        Games.is("at the last place", last, 0, Games.VX, 6, Games.NEXT, 12, Games.SCRIPT, -1);
        Rollbacker behind = Games.scripted(Games.BALL, "a1,0 g11 " + "a10,0 ".repeat(9).trim());
        behind.tick(1);
        Games.is("just behind the last operation", behind, 0, Games.VX, 1, Games.NEXT, 11, Games.SCRIPT, -1);
        Rollbacker far = Games.scripted(Games.BALL, "g11");
        far.tick(1);
        Games.is("far behind it", far, 0, Games.NEXT, 11, Games.SCRIPT, -1);
        Rollbacker first = Games.scripted(Games.BALL, "a1,0 w1 g0");
        first.tick(10);
        Games.is("at the first one", first, 0, Games.VX, 10, Games.NEXT, 2, Games.SCRIPT, 0);
        Rollbacker itself = Games.scripted(Games.BALL, "g0");
        itself.tick(1);
        Games.is("at itself", itself, 0, Games.NEXT, 0, Games.SCRIPT, -1);
    }

    // "'r' a: vx increases by the random number, modulo 2 times a plus 1, less a."; "The random number: the seed
    // becomes 1103515245 times itself plus 12345, going round as ints do; it is the seed, shifted to the right by 16
    // bits, and then its lowest 15 bits."
    private static void randomNumbers() {
        for (int a : new int[] {1, 2, 19, 20}) {
            Rollbacker x = Games.scripted(Games.BALL, "r" + a + " w1 g0");
            BigInteger seed = BigInteger.ONE;
            boolean wasBelow = false;
            boolean wasLeast = false;
            boolean wasMost = false;
            int before = 0;
            for (int step = 0; step < 150; step++) {
                seed = seed.multiply(BigInteger.valueOf(1103515245)).add(BigInteger.valueOf(12345));
                seed = BigInteger.valueOf(seed.intValue());
                int random = seed.shiftRight(16).and(BigInteger.valueOf(32767)).intValue();
                int due = random % (2 * a + 1) - a;
                x.tick(1);
                int speed = fieldOf(x, 0, Games.VX);
                boolean isThrown = fieldOf(x, 0, Games.X) == 10 || fieldOf(x, 0, Games.X) == 4085;
                if (isThrown) {
                    break;
                }
                Games.is("r" + a + " in the step " + step, x, 0, Games.VX, before + due);
                before = speed;
                wasBelow |= seed.signum() < 0;
                wasLeast |= due == -a;
                wasMost |= due == a;
            }
            Check.holds("a seed below 0", wasBelow);
            Check.holds("least and most of " + a, a > 2 || wasLeast && wasMost);
        }
    }

    // "'e': it is destroyed."
    private static void endedByScripts() {
        Rollbacker first = Games.scripted(Games.BALL, "e");
        first.tick(1);
        Check.gives("the first", () -> first.boxes(0), 0);
        Rollbacker eighth = Games.scripted(Games.WALL, "a1,0 ".repeat(7) + "e");
        eighth.tick(1);
        Check.gives("the eighth", () -> eighth.boxes(0), 0);
        Rollbacker twelfth = Games.scripted(Games.RUNNER, "g11 " + "f ".repeat(10) + "e");
        twelfth.tick(1);
        Check.gives("the twelfth place", () -> twelfth.boxes(0), 0);
        Rollbacker fires = Games.scripted(Games.BALL, "f e f");
        fires.tick(1);
        Check.gives("nothing behind it is done", () -> fires.boxes(0), 1);
    }

    // "behind the last operation, whatever the wait is, the script has stopped, and its script becomes -1"
    private static void behindTheLastOperation() {
        for (int wait : new int[] {1, 99}) {
            Rollbacker x = Games.scripted(Games.BALL, "w" + wait);
            x.tick(1);
            Games.is("w" + wait, x, 0, Games.SCRIPT, -1, Games.WAIT, wait, Games.NEXT, 1);
            x.tick(5);
            Games.is("it stays so", x, 0, Games.SCRIPT, -1, Games.WAIT, wait, Games.NEXT, 1);
        }
        Rollbacker none = Games.scripted(Games.BALL, "");
        Games.is("as built", none, 0, Games.SCRIPT, 0);
        none.tick(1);
        Games.is("a script of 0 operations", none, 0, Games.SCRIPT, -1, Games.WAIT, 0, Games.NEXT, 0);
        Rollbacker twelve = Games.scripted(Games.BALL, "w1 ".repeat(12).trim());
        twelve.tick(11);
        Games.is("ahead of the twelfth", twelve, 0, Games.SCRIPT, 0, Games.NEXT, 11, Games.WAIT, 0);
        twelve.tick(1);
        Games.is("behind it", twelve, 0, Games.SCRIPT, -1, Games.NEXT, 12, Games.WAIT, 1);
    }

    // ---- motion

    // "Then vx and vy of a runner decrease by themselves divided by 8, cut towards 0."
    private static void slowing() {
        for (int speed = -48; speed <= 48; speed++) {
            int eighth = Math.abs(speed) / 8;
            int due = speed < 0 ? speed + eighth : speed - eighth;
            Rollbacker x = Games.moved(Games.RUNNER, 1000, 1000, speed, -speed);
            Games.is("runner " + speed, x, 0, Games.VX, due, Games.VY, -due, Games.X, 1000 + speed);
        }
        Rollbacker ball = Games.moved(Games.BALL, 1000, 1000, 48, -8);
        Games.is("a ball does not", ball, 0, Games.VX, 48, Games.VY, -8);
        Rollbacker wall = Games.moved(Games.WALL, 1000, 1000, 48, -8);
        Games.is("a wall does not", wall, 0, Games.VX, 48, Games.VY, -8, Games.X, 1000, Games.Y, 1000);
    }

    // "If x less the half is less than 0, x becomes the half; if x plus the half is greater than 4095, x becomes 4095
    // less the half"; "Then so for y."
    private static void lowAndHighEdges() {
        for (int half : new int[] {2, 255}) {
            for (int beyond = -1; beyond <= 1; beyond++) {
                Rollbacker x = new Rollbacker();
                x.addBox(Games.BALL, half + 20, 4095 - half - 20, half, 1, 0, -1);
                x.push(0, -20 - beyond, 20 + beyond);
                x.start(1);
                x.tick(1);
                int by = Math.min(0, beyond);
                Games.is(half + " by " + beyond, x, 0, Games.X, half - by, Games.Y, 4095 - half + by);
                int speed = beyond == 1 ? -15 : 20 + beyond;
                Games.is(half + " by " + beyond, x, 0, Games.VX, -speed, Games.VY, speed);
                Rollbacker y = new Rollbacker();
                y.addBox(Games.RUNNER, 4095 - half - 20, half + 20, half, 1, 2, -1);
                y.push(0, 20 + beyond, -20 - beyond);
                y.start(1);
                y.tick(1);
                Games.is(half + " by " + beyond, y, 0, Games.X, 4095 - half + by, Games.Y, half - by);
                // 19, 20 and 21 are 17, 18 and 19 when an eighth is gone; 3 times 19, divided by 4, is 14.
                int slowed = beyond == 1 ? -14 : 18 + beyond;
                Games.is(half + " by " + beyond, y, 0, Games.VX, slowed, Games.VY, -slowed);
            }
        }
        // A half that was made 0 and one that does not fit any more.
        Rollbacker x = new Rollbacker();
        x.addBox(Games.BALL, 2, 2, 2, 1, 0, -1);
        x.start(1);
        x.tick(1);
        x.cheat(0, 0, Games.HALF, 0);
        x.cheat(0, 0, Games.X, 0);
        x.tick(1);
        Games.is("a half of 0", x, 0, Games.X, 0, Games.Y, 2);
        x.cheat(0, 0, Games.HALF, 1);
        x.tick(1);
        Games.is("a half of 1", x, 0, Games.X, 1, Games.Y, 2);
        x.cheat(0, 0, Games.HALF, 3);
        x.tick(1);
        Games.is("a half of 3", x, 0, Games.X, 3, Games.Y, 3);
        // "Each box but a wall": one that reaches over an edge stays, and so does its speed.
        Rollbacker wall = new Rollbacker();
        wall.addBox(Games.WALL, 100, 100, 100, 1, 0, -1);
        wall.push(0, -8, 12);
        wall.start(1);
        wall.tick(1);
        wall.cheat(0, 0, Games.X, 20);
        wall.tick(2);
        Games.is("a wall over an edge", wall, 0, Games.X, 20, Games.Y, 100, Games.VX, -8, Games.VY, 12);
    }

    // "in both cases vx becomes minus 3 times itself, divided by 4, cut towards 0"
    private static void thrownBack() {
        for (int speed = 1; speed <= 48; speed++) {
            int due = 3 * speed / 4;
            Rollbacker low = Games.moved(Games.BALL, 10, 10, -speed, -speed);
            Games.is("low " + speed, low, 0, Games.X, 10, Games.Y, 10, Games.VX, due, Games.VY, due);
            Rollbacker high = Games.moved(Games.BALL, 4085, 4085, speed, speed);
            Games.is("high " + speed, high, 0, Games.X, 4085, Games.Y, 4085, Games.VX, -due, Games.VY, -due);
            Rollbacker away = Games.moved(Games.BALL, 10, 4085, speed, -speed);
            Games.is("away " + speed, away, 0, Games.X, 10 + speed, Games.Y, 4085 - speed, Games.VX, speed);
        }
        Rollbacker still = Games.moved(Games.BALL, 10, 4085, 0, 0);
        Games.is("at the edge", still, 0, Games.X, 10, Games.Y, 4085, Games.VX, 0, Games.VY, 0);
        // Another one pushes it over the edge: it is there until the next motion, which throws back even 0.
        Rollbacker pushed = new Rollbacker();
        Games.box(pushed, Games.BALL, 10, 1000, -1);
        Games.box(pushed, Games.BALL, 20, 1000, -1);
        pushed.start(1);
        pushed.tick(1);
        Games.is("pushed over the edge", pushed, 0, Games.X, 5);
        pushed.tick(1);
        Games.is("taken back", pushed, 0, Games.X, 8, Games.VX, 0);
        Games.is("and they meet again", pushed, 1, Games.X, 28, Games.VX, 0);
    }

    // "and a shot is destroyed"; "What is destroyed [..] does nothing any more, and nothing touches it"
    private static void shotsAtEdges() {
        // Its half is 2, and its speed 32; just at the edge it stays, 1 beyond it is destroyed.
        int[][] ways = {{2, 1}, {8, 1}, {1, -1}, {4, -1}};
        for (int[] way : ways) {
            boolean isY = way[0] == 8 || way[0] == 4;
            for (int beyond = 0; beyond <= 1; beyond++) {
                int at = way[1] > 0 ? 4093 - 32 - 4 + beyond : 2 + 32 + 4 - beyond;
                Rollbacker x = new Rollbacker();
                x.addBox(Games.RUNNER, isY ? 1000 : at, isY ? at : 1000, 2, 1, 0, -1);
                // A wall at the edge, which the shot would meet there, in the next step at the earliest.
                int edge = way[1] > 0 ? 4093 : 2;
                x.addBox(Games.WALL, isY ? 1003 : edge, isY ? edge : 1003, 2, 1, 0, -1);
                x.start(1);
                x.press(0, 16 + way[0]);
                x.tick(1);
                Games.is("fired where the runner is then", x, 2, isY ? Games.Y : Games.X, at + 4 * way[1]);
                x.press(0, 0);
                x.tick(1);
                int there = beyond;
                Check.gives("way " + way[0] + " beyond " + beyond, () -> x.effects(0, 1), 1 - there);
                Check.gives("way " + way[0] + " beyond " + beyond, () -> x.boxes(0), 2);
                Games.is("the wall", x, 1, Games.TOUCHED, 1 - beyond);
            }
        }
        Rollbacker free = new Rollbacker();
        free.addBox(Games.RUNNER, 4093 - 36, 1000, 2, 1, 0, -1);
        free.start(1);
        free.press(0, 18);
        free.tick(1);
        free.press(0, 0);
        free.tick(1);
        Games.is("just at the edge", free, 1, Games.X, 4093, Games.VX, 32, Games.TIMER, 19);
        free.tick(1);
        Check.gives("then beyond", () -> free.boxes(0), 1);
    }

    // ---- contacts

    // "Two boxes overlap if the differences of their x and of their y, without signs, are both less than the sum of
    // their halves."
    private static void overlaps() {
        int[][] halves = {{2, 2}, {10, 11}, {255, 2}, {255, 255}};
        for (int[] pair : halves) {
            int sum = pair[0] + pair[1];
            for (int sign : new int[] {-1, 1}) {
                for (int less = 0; less <= 1; less++) {
                    overlap(pair, sign * (sum - less), 0, less == 1);
                    overlap(pair, 0, sign * (sum - less), less == 1);
                    overlap(pair, sign * (sum - less), sum - 1, less == 1);
                    overlap(pair, sum - 1, sign * (sum - less), less == 1);
                    overlap(pair, sign * (sum - less), sign * sum, false);
                }
            }
            overlap(pair, 0, 0, true);
        }
        // Halves that were made 0: at the same place nothing is less than their sum.
        for (int half = 0; half <= 1; half++) {
            Rollbacker x = new Rollbacker();
            Games.box(x, Games.BALL, 1000, 1000, -1);
            Games.box(x, Games.BALL, 3000, 3000, -1);
            x.start(1);
            x.tick(1);
            x.cheat(0, 0, Games.HALF, 0);
            x.cheat(0, 1, Games.HALF, half);
            for (int place = 0; place < 2; place++) {
                x.cheat(0, place, Games.X, 40);
                x.cheat(0, place, Games.Y, 40);
            }
            x.tick(1);
            int due = half;
            Check.gives("halves of 0 and " + half, () -> x.effects(0, 1), due);
        }
    }

    private static void overlap(int[] halves, int dx, int dy, boolean due) {
        Rollbacker x = new Rollbacker();
        x.addBox(Games.BALL, 1500, 1500, halves[0], 1, 0, -1);
        x.addBox(Games.BALL, 1500 + dx, 1500 + dy, halves[1], 1, 0, -1);
        x.start(1);
        x.tick(1);
        String what = halves[0] + " and " + halves[1] + ", apart by " + dx + " " + dy;
        Check.gives(what, () -> x.effects(0, 0), due ? 1 : 0);
        Games.is(what, x, 0, Games.TOUCHED, due ? 1 : 0);
        Games.is(what, x, 1, Games.TOUCHED, due ? 1 : 0);
    }

    // "Two walls, two shots, and a shot and the box at the place that is its owner, whichever box that is now, do
    // nothing. Otherwise both are touched."
    private static void twoThatDoNothing() {
        Rollbacker walls = couple(Games.WALL, Games.WALL, 1000, 1000, 5, 0, 1001, 1000, -5, 0);
        Check.gives("two walls", () -> walls.effects(0, 0), 0);
        Games.is("two walls", walls, 0, Games.TOUCHED, 0, Games.X, 1000, Games.VX, 5);
        Rollbacker shots = Games.scripted(Games.BALL, "f f f");
        shots.tick(4);
        Check.gives("three shots at one place", () -> shots.boxes(0), 4);
        Games.is("three shots", shots, 1, Games.TOUCHED, 0);
        // The shot is upon the wall that fired it for three steps, in the last one upon another wall, too.
        for (int owner = 0; owner <= 1; owner++) {
            Rollbacker x = new Rollbacker();
            int fire = Games.script(x, "f");
            int other = 1 - owner;
            for (int place = 0; place < 2; place++) {
                boolean fires = place == owner;
                x.addBox(Games.WALL, fires ? 1000 : 1100, 1000, fires ? 100 : 10, 1, 0, fires ? fire : -1);
            }
            x.start(1);
            x.tick(3);
            Check.gives("not its owner", () -> x.effects(0, 1) + x.effects(0, 2), 0);
            x.tick(1);
            Check.gives("the other one alone", () -> x.effects(0, 3), 1);
            Check.gives("the other one", () -> x.effectAt(0, 3, 0), 2002 + 20 * other);
            Games.is("the owner is not touched", x, owner, Games.TOUCHED, 0);
            Games.is("the other one is", x, other, Games.TOUCHED, 1);
        }
    }

    // "a shot and the box at the place that is its owner", whichever of them is first, at the last places too
    private static void shotsAheadOfTheirOwners() {
        for (int shot : new int[] {0, 1, 14}) {
            Rollbacker x = new Rollbacker();
            int end = Games.script(x, "e");
            int fire = Games.script(x, "f");
            for (int place = 0; place < 16; place++) {
                boolean fires = place == shot + 1;
                x.addBox(Games.WALL, fires ? 1000 : 3000, 1000 + 100 * place, fires ? 90 : 10, 1, 0,
                        fires ? fire : place == shot ? end : -1);
            }
            x.start(1);
            x.tick(3);
            Games.is("a shot", x, shot, Games.KIND, Games.SHOT, Games.OWNER, shot + 1, Games.TOUCHED, 0);
            Check.gives("no effect", () -> x.effects(0, 1) + x.effects(0, 2), 0);
        }
    }

    // "All couples that overlap behind the motion are found first, and then gone through by the rising first and then
    // second place; a couple of which one was destroyed by then does nothing."
    private static void goneByThen() {
        // In the step 3 the shot reaches the runner 1, and so does the ball 3, from below.
        for (int hits = 1; hits <= 2; hits++) {
            Rollbacker x = new Rollbacker();
            Games.box(x, Games.BALL, 3000, 3000, Games.script(x, "e"));
            x.addBox(Games.RUNNER, 1100, 1000, 10, hits, 2, -1);
            Games.box(x, Games.RUNNER, 1000, 1000, -1);
            Games.pushed(x, Games.BALL, 1100, 1042, 0, -6);
            x.start(1);
            x.press(0, 16);
            x.tick(3);
            Check.gives("nothing met", () -> x.effects(0, 0) + x.effects(0, 1) + x.effects(0, 2), 0);
            x.tick(1);
            int due = hits;
            Check.gives(hits + " hits", () -> x.effects(0, 3), due);
            Check.gives(hits + " hits", () -> x.effectAt(0, 3, 0), 1001);
            Games.is(hits + " hits", x, 3, Games.Y, hits == 1 ? 1018 : 1019, Games.VY, hits == 1 ? -6 : 0);
            Games.is(hits + " hits", x, 3, Games.TOUCHED, hits - 1);
        }
        // The other way round the ball's couple is the first one.
        Rollbacker x = new Rollbacker();
        Games.pushed(x, Games.BALL, 1100, 1042, 0, -6);
        x.addBox(Games.RUNNER, 1100, 1000, 10, 1, 2, -1);
        Games.box(x, Games.RUNNER, 1000, 1000, -1);
        x.start(1);
        x.press(0, 16);
        x.tick(4);
        Check.gives("both couples", () -> x.effects(0, 3), 2);
        Check.gives("the ball's", () -> x.effectAt(0, 3, 0), 4001);
        Check.gives("the shot's", () -> x.effectAt(0, 3, 1), 1023);
        Games.is("the ball", x, 0, Games.Y, 1019, Games.VY, 0, Games.TOUCHED, 1);
        // A shot that reaches two at once meets the first one alone.
        Rollbacker both = new Rollbacker();
        Games.box(both, Games.RUNNER, 1000, 1000, -1);
        both.addBox(Games.RUNNER, 1100, 989, 10, 1, 2, -1);
        both.addBox(Games.WALL, 1100, 1011, 10, 1, 0, -1);
        both.start(1);
        both.press(0, 16);
        both.tick(4);
        Check.gives("one couple alone", () -> both.effects(0, 3), 1);
        Check.gives("the first one", () -> both.effectAt(0, 3, 0), 1023);
        Check.gives("both are gone", () -> both.boxes(0), 2);
        Games.is("the wall is not touched", both, 2, Games.TOUCHED, 0);
    }

    // "if the other one is a runner, its hits decrease by 1, and it is destroyed if they are 0 then; the effect is 1
    // for a runner, 2 otherwise"
    private static void lastHits() {
        for (int hits : new int[] {1, 2, 9}) {
            Rollbacker x = new Rollbacker();
            Games.box(x, Games.RUNNER, 1000, 1000, -1);
            x.addBox(Games.RUNNER, 1040, 1000, 10, hits, 2, -1);
            x.start(1);
            x.press(0, 16);
            // Fired in each 8th step, a shot meets the runner in the step behind that.
            for (int left = hits - 1; left > 0; left--) {
                x.tick(8);
                Games.is("of " + hits, x, 1, Games.HITS, left);
            }
            x.tick(1);
            Games.is("ahead of the last one", x, 1, Games.HITS, 1);
            Check.gives("ahead of the last one", () -> x.boxes(0), 3);
            x.tick(1);
            Check.gives("destroyed at 0", () -> x.boxes(0), 1);
            int step = 8 * hits - 7;
            Check.gives("the effect", () -> x.effectAt(0, step, 0), 1022);
        }
        for (int kind : new int[] {Games.BALL, Games.WALL}) {
            Rollbacker x = new Rollbacker();
            Games.box(x, Games.RUNNER, 1000, 1000, -1);
            x.addBox(kind, 1040, 1000, 10, 1, 0, -1);
            x.start(1);
            x.press(0, 16);
            x.tick(2);
            Check.gives("kind " + kind, () -> x.effectAt(0, 1, 0), 2022);
            Games.is("its hits are no matter", x, 1, Games.HITS, 1, Games.TOUCHED, 1);
            x.tick(16);
            Check.gives("it is not destroyed", () -> x.field(0, 1, Games.HITS), 1);
        }
        // By these words, a runner with no hits is not destroyed by one more.
        Rollbacker none = new Rollbacker();
        Games.box(none, Games.RUNNER, 1000, 1000, -1);
        none.addBox(Games.RUNNER, 1040, 1000, 10, 1, 2, -1);
        none.start(1);
        none.press(0, 16);
        none.tick(1);
        none.cheat(0, 1, Games.HITS, 0);
        none.tick(1);
        Games.is("less than 0", none, 1, Games.HITS, -1);
    }

    // "the axis is that with the lesser depth, x if both are the same"
    private static void lesserDepth() {
        for (int more = -1; more <= 1; more++) {
            // The depth in x is 5, that in y 4, 5 or 6.
            Rollbacker x = couple(Games.WALL, Games.BALL, 1000, 1000, 0, 0, 1015, 1015 - more, 0, 0);
            boolean isY = more < 0;
            Games.is("depth of 5 and " + (5 + more), x, 1, Games.X, isY ? 1015 : 1020);
            Games.is("depth of 5 and " + (5 + more), x, 1, Games.Y, isY ? 1020 : 1015 - more);
            Rollbacker y = couple(Games.BALL, Games.RUNNER, 1000, 1000, 0, 0, 1014, 1014 - more, 0, 0);
            Games.is("depth of 6 and " + (6 + more), y, 0, Games.X, isY ? 1000 : 997, Games.Y, isY ? 998 : 1000);
        }
    }

    // "the depth in x is the sum of both halves less the difference of x without its sign, or 0 if it would be less,
    // and so in y"
    private static void noDepthLeft() {
        // 1 is in the middle of two balls; the first couple moves it just beside 2, or 1 further.
        for (int further = -1; further <= 1; further++) {
            for (boolean isY : new boolean[] {false, true}) {
                Rollbacker x = new Rollbacker();
                int[] at = {1000, 1019, 1028 - further};
                for (int place = 0; place < 3; place++) {
                    Games.box(x, place == 2 ? Games.WALL : Games.BALL, isY ? 1000 : at[place],
                            isY ? at[place] : 1000, -1);
                }
                x.start(1);
                x.tick(1);
                int axis = isY ? Games.Y : Games.X;
                // 0 and 1: depth 1, of which 1 gets all: 1020. Then it is 8 less further beside the wall.
                Games.is("0", x, 0, axis, 1000);
                Games.is("1 is moved out of the wall", x, 1, axis, 1008 - further);
            }
        }
        for (int left = -1; left <= 1; left++) {
            for (boolean isY : new boolean[] {false, true}) {
                Rollbacker x = new Rollbacker();
                // The wall 0 moves 2 by 10 to 1020; 1 overlapped it behind the motion, and is then 20 + left away.
                int[] at = {1000, 1000 - left, 1010};
                int axis = isY ? Games.Y : Games.X;
                x.addBox(Games.WALL, isY ? 1007 : 1000, isY ? 1000 : 1007, 10, 1, 0, -1);
                x.addBox(Games.BALL, isY ? 991 : at[1], isY ? at[1] : 991, 10, 1, 0, -1);
                x.addBox(Games.BALL, isY ? 1000 : at[2], isY ? at[2] : 1000, 10, 1, 0, -1);
                x.start(1);
                x.tick(1);
                // 0 and 1: depth 4 across, moved there; 0 and 2: depth 10 along; 1 and 2: 7 across, -left along.
                int depth = Math.max(0, -left);
                Check.gives("all couples", () -> x.effects(0, 0), 3);
                Games.is("left " + left, x, 1, axis, 1000 - left - depth / 2, isY ? Games.X : Games.Y, 987);
                Games.is("left " + left, x, 2, axis, 1020 + depth - depth / 2, isY ? Games.X : Games.Y, 1000);
            }
        }
    }

    // "With a wall, the other one is moved along the axis by the depth, away from the wall: towards greater numbers,
    // if it is not less there than the wall"
    private static void besideWalls() {
        for (int apart : new int[] {-19, -1, 0, 1, 19}) {
            for (boolean isY : new boolean[] {false, true}) {
                int axis = isY ? Games.Y : Games.X;
                // Along y, so that the depth there is the lesser one, they must be apart in x by less.
                if (isY && apart == 0) {
                    continue;
                }
                Rollbacker x = along(isY, Games.WALL, Games.BALL, 1000, 0, 1000 + apart, 0);
                Rollbacker y = along(isY, Games.BALL, Games.WALL, 1000 + apart, 0, 1000, 0);
                int due = apart < 0 ? 980 : 1020;
                Games.is("apart by " + apart, x, 1, axis, due);
                Games.is("apart by " + apart, x, 0, axis, 1000);
                Games.is("apart by " + apart, y, 0, axis, due);
                Check.gives("the effect", () -> x.effectAt(0, 0, 0), 3001);
            }
        }
        // Just as far away in both: along x; with the same y, along y if they are further apart there.
        Rollbacker same = couple(Games.WALL, Games.BALL, 1000, 1000, 0, 0, 1000, 1000, 0, 0);
        Games.is("at the same place", same, 1, Games.X, 1020, Games.Y, 1000);
    }

    // "if its speed along the axis was towards the wall, this becomes minus 3 times itself divided by 4, cut towards 0"
    private static void towardsWalls() {
        for (int speed = -9; speed <= 9; speed++) {
            for (boolean isY : new boolean[] {false, true}) {
                int axis = isY ? Games.VY : Games.VX;
                // Behind the motion, the ball is 11 above the wall, or 11 below it.
                Rollbacker above = along(isY, Games.WALL, Games.BALL, 1000, 0, 1011 - speed, speed);
                Rollbacker below = along(isY, Games.BALL, Games.WALL, 989 - speed, speed, 1000, 0);
                int back = -3 * speed / 4;
                Games.is("above, " + speed, above, 1, axis, speed < 0 ? back : speed);
                Games.is("below, " + speed, below, 0, axis, speed > 0 ? back : speed);
            }
        }
        // Across the axis, and of the wall, no speed is changed.
        Rollbacker across = couple(Games.WALL, Games.BALL, 1000, 1000, 7, 7, 1011, 1005, 0, -5);
        Games.is("across", across, 1, Games.VX, 0, Games.VY, -5);
        Games.is("the wall", across, 0, Games.VX, 7, Games.VY, 7);
    }

    // "the first one is moved by half of the depth, cut towards 0, and the second one by the rest"; "the second one
    // towards greater numbers, if it is not less there than the first one, and otherwise the first one"
    private static void halfOfTheDepth() {
        for (int depth = 1; depth <= 20; depth++) {
            for (boolean isY : new boolean[] {false, true}) {
                if (isY && depth == 20) {
                    continue;
                }
                int axis = isY ? Games.Y : Games.X;
                Rollbacker rising = along(isY, Games.BALL, Games.RUNNER, 1000, 0, 1020 - depth, 0);
                Games.is("rising " + depth, rising, 0, axis, 1000 - depth / 2);
                Games.is("rising " + depth, rising, 1, axis, 1020 - depth / 2);
                if (depth < 20) {
                    Rollbacker falling = along(isY, Games.BALL, Games.RUNNER, 1000, 0, 980 + depth, 0);
                    Games.is("falling " + depth, falling, 0, axis, 1000 + depth / 2);
                    Games.is("falling " + depth, falling, 1, axis, 980 + depth / 2);
                }
            }
        }
    }

    // The same at the last places of a full world.
    private static void halfOfTheDepthAtTheLastPlaces() {
        Rollbacker x = new Rollbacker();
        for (int place = 0; place < 14; place++) {
            Games.box(x, Games.BALL, 100 + 200 * place, 3000, -1);
        }
        Games.pushed(x, Games.BALL, 998, 1000, 2, 0);
        Games.pushed(x, Games.BALL, 1014, 1000, -3, 0);
        x.start(1);
        x.tick(1);
        Check.gives("14 and 15 alone", () -> x.effects(0, 0) * 10000 + x.effectAt(0, 0, 0), 14295);
        Games.is("the first one", x, 14, Games.X, 996, Games.VX, -3);
        Games.is("the second one", x, 15, Games.X, 1016, Games.VX, 2);
        Games.is("no other one", x, 0, Games.X, 100, Games.VX, 0);
        Games.is("no other one", x, 1, Games.X, 300, Games.VX, 0);
    }

    // "if it is not less there than the first one": the same number is not less
    private static void apartAtTheSamePlace() {
        for (int apart = -1; apart <= 1; apart++) {
            Rollbacker x = couple(Games.BALL, Games.BALL, 1000, 1000, 0, 0, 1000 + apart, 1000, 0, 0);
            int depth = 20 - Math.abs(apart);
            int way = apart < 0 ? -1 : 1;
            Games.is("apart by " + apart, x, 0, Games.X, apart == 0 ? 990 : 1000 - way * (depth / 2));
            int second = 1000 + apart + way * (depth - depth / 2);
            boolean isAlongX = apart != 0;
            Games.is("apart by " + apart, x, 1, Games.X, isAlongX ? second : 1010, Games.Y, 1000);
        }
    }

    // "if they came nearer along the axis, which is so if the speed of the one that is moved towards less numbers is
    // greater than that of the other one, their speeds along it are exchanged"
    private static void nearer() {
        for (int more = -1; more <= 1; more++) {
            for (int speed : new int[] {-5, 0, 5}) {
                for (boolean isY : new boolean[] {false, true}) {
                    int axis = isY ? Games.VY : Games.VX;
                    int lesser = speed + more;
                    // Behind the motion at 1000 and 1010.
                    Rollbacker rising = along(isY, Games.BALL, Games.BALL, 1000 - lesser, lesser, 1010 - speed, speed);
                    Rollbacker falling = along(isY, Games.BALL, Games.BALL, 1010 - speed, speed, 1000 - lesser, lesser);
                    boolean exchanged = more > 0;
                    String what = lesser + " and " + speed;
                    Games.is(what, rising, 0, axis, exchanged ? speed : lesser);
                    Games.is(what, rising, 1, axis, exchanged ? lesser : speed);
                    Games.is(what, falling, 0, axis, exchanged ? lesser : speed);
                    Games.is(what, falling, 1, axis, exchanged ? speed : lesser);
                    Check.gives("the effect", () -> rising.effectAt(0, 0, 0), 4001);
                }
            }
        }
    }

    // ---- the end of a step

    // "The timer of each shot decreases by 1, and it is destroyed at 0."; "a timer of 20"
    private static void shotTimers() {
        // It moves and meets in its last step, behind which it is gone: 20 times 32 from where it was put.
        for (int beyond = 0; beyond <= 1; beyond++) {
            Rollbacker x = new Rollbacker();
            Games.box(x, Games.BALL, 1000, 1000, Games.script(x, "f"));
            Games.box(x, Games.WALL, 1640 + 11 + beyond, 1000, -1);
            x.start(1);
            for (int timer = 20; timer > 0; timer--) {
                x.tick(1);
                Games.is("under way", x, 2, Games.TIMER, timer, Games.X, 1000 + 32 * (20 - timer));
            }
            x.tick(1);
            int due = 1 - beyond;
            Check.gives("beyond by " + beyond, () -> x.effects(0, 20), due);
            Check.gives("gone", () -> x.boxes(0), 2);
        }
    }

    // "then what was fired is put, in the order in which it was fired, each into the lowest empty place, or is lost if
    // there is none"; "with the x and y that the firing box has then, or had last"
    private static void placesForShots() {
        for (int boxes = 13; boxes <= 16; boxes++) {
            Rollbacker x = new Rollbacker();
            int fire = Games.script(x, "f");
            for (int place = 0; place < boxes; place++) {
                int kind = place == 1 ? Games.RUNNER : Games.BALL;
                Games.box(x, kind, 200 * place + 100, 1000, place == 0 || place == 2 ? fire : -1);
            }
            x.start(1);
            x.press(0, 16);
            x.tick(1);
            int[] owners = {1, 0, 2};
            for (int i = 0; boxes + i < 16; i++) {
                Games.is(boxes + " boxes", x, boxes + i, Games.KIND, Games.SHOT, Games.OWNER, owners[i]);
            }
            Check.gives(boxes + " boxes", () -> x.boxes(0), 16);
            Games.is("it has fired all the same", x, 1, Games.TIMER, 8);
        }
        // Those that are destroyed make room in the same step, whatever destroys them; the box 0 moves, 15 ends.
        Rollbacker x = new Rollbacker();
        int ends = Games.script(x, "f f e");
        int fires = Games.script(x, "f");
        Games.pushed(x, Games.BALL, 100, 1000, 5, 6);
        for (int place = 1; place < 14; place++) {
            Games.box(x, Games.BALL, 200 * place + 100, 1000, -1);
        }
        x.addBox(Games.BALL, 100, 2000, 10, 1, 0, fires);
        x.push(14, 7, 8);
        x.addBox(Games.BALL, 500, 2000, 10, 1, 0, ends);
        x.push(15, 7, 8);
        x.start(1);
        x.tick(1);
        Check.gives("one of three", () -> x.boxes(0), 16);
        Games.is("where it is then", x, 15, Games.OWNER, 14, Games.X, 107, Games.Y, 2008, Games.GENERATION, 2);
        Rollbacker last = Games.scripted(Games.BALL, "v9,9 f f f f f e");
        last.tick(1);
        Check.gives("all five", () -> last.boxes(0), 5);
        for (int place = 0; place < 5; place++) {
            Games.is("where it was last", last, place, Games.X, 1000, Games.Y, 1000, Games.OWNER, 0, Games.VX, 32);
            Games.is("a shot", last, place, Games.VY, 0, Games.HALF, 2, Games.HITS, 1, Games.TIMER, 20);
            Games.is("a shot", last, place, Games.FACING, 0, Games.SCRIPT, -1, Games.NEXT, 0, Games.WAIT, 0);
            Games.is("a shot", last, place, Games.GENERATION, place == 0 ? 2 : 1, Games.TOUCHED, 0);
        }
    }

    // "a speed of 32 by the facing of this when it fired, in the one direction, and 0 in the other [..] the facing of
    // this"
    private static void shotsByFacing() {
        int[] inputs = {2, 8, 1, 4};
        int[] vx = {32, 0, -32, 0};
        int[] vy = {0, 32, 0, -32};
        for (int facing = 0; facing < 4; facing++) {
            for (int place = 0; place < 15; place += 7) {
                Rollbacker x = new Rollbacker();
                for (int i = 0; i < 15; i++) {
                    Games.box(x, i == place ? Games.RUNNER : Games.WALL, 200 + 200 * i, 1000, -1);
                }
                x.start(1);
                x.press(0, inputs[facing]);
                x.tick(1);
                x.press(0, 16 + 15);
                x.tick(1);
                Games.is("of " + place, x, 15, Games.VX, vx[facing], Games.VY, vy[facing], Games.FACING, facing);
                Games.is("of " + place, x, 15, Games.OWNER, place, Games.X, x.field(0, place, Games.X));
            }
        }
    }
}
