/** The rules of a step, with answers worked out by hand; one player, so that nothing is foretold. */
public final class StepTest {
    private static final int X = 2;
    private static final int Y = 3;
    private static final int VX = 4;
    private static final int VY = 5;
    private static final int HITS = 7;
    private static final int TIMER = 9;
    private static final int FACING = 10;
    private static final int SCRIPT = 11;
    private static final int NEXT = 12;
    private static final int WAIT = 13;
    private static final int TOUCHED = 14;

    public static void main(String[] args) {
        steering();
        holding();
        facing();
        firing();
        waiting();
        touching();
        speeds();
        goingOn();
        stopping();
        randomSpeeds();
        ending();
        moving();
        edges();
        overlapping();
        walls();
        boxesApart();
        boxesMovedBefore();
        allOverlap();
        shotsMeet();
        shotsAndTheirOwners();
        shotsDone();
        firedFromDestroyed();
        noPlaceForShots();
        allFire();
        generations();
        Check.end("StepTest");
    }

    private static int box(Rollbacker x, int kind, int atX, int atY, int vx, int vy) {
        return scripted(x, kind, atX, atY, vx, vy, -1);
    }

    private static int scripted(Rollbacker x, int kind, int atX, int atY, int vx, int vy, int script) {
        int place = x.addBox(kind, atX, atY, 10, 2, 0, script);
        x.push(place, vx, vy);
        return place;
    }

    private static Rollbacker runnerAlone(int vx, int vy) {
        Rollbacker x = new Rollbacker();
        box(x, 0, 1000, 1000, vx, vy);
        x.start(1);
        return x;
    }

    /** A ball with a script; the operations lie in one text such as "w3 v5,-6 e". */
    private static Rollbacker ballWith(String script) {
        Rollbacker x = new Rollbacker();
        addScript(x, script);
        scripted(x, 1, 1000, 1000, 0, 0, 0);
        x.start(1);
        return x;
    }

    private static int addScript(Rollbacker x, String script) {
        int number = x.addScript();
        for (String operation : script.isEmpty() ? new String[0] : script.split(" ")) {
            String[] numbers = operation.substring(1).split(",");
            int a = numbers[0].isEmpty() ? 0 : Integer.parseInt(numbers[0]);
            int b = numbers.length < 2 ? 0 : Integer.parseInt(numbers[1]);
            x.addOperation(number, operation.charAt(0), a, b);
        }
        return number;
    }

    private static void is(String what, Rollbacker x, int place, int... fieldsAndValues) {
        for (int i = 0; i < fieldsAndValues.length; i += 2) {
            int field = fieldsAndValues[i];
            int due = fieldsAndValues[i + 1];
            Check.gives(what + ", place " + place + " field " + field, () -> x.field(0, place, field), due);
        }
    }

    private static void steering() {
        Rollbacker x = runnerAlone(0, 0);
        x.press(0, 2 + 8);
        x.tick(1);
        is("right, down", x, 0, X, 1004, Y, 1004, VX, 4, VY, 4);
        x.tick(1);
        is("slowed by an eighth", x, 0, X, 1012, Y, 1012, VX, 7, VY, 7);
        x.press(0, 1 + 4);
        x.tick(2);
        is("left, up", x, 0, X, 1012 + 3 - 1, Y, 1014, VX, -1, VY, -1);
        x.press(0, 15);
        x.tick(1);
        is("all four", x, 0, X, 1013, VX, -1, VY, -1);
        Rollbacker other = new Rollbacker();
        other.addBox(0, 1000, 1000, 10, 1, 1, -1);
        other.start(1);
        other.press(0, 31);
        other.tick(2);
        is("its player is not there", other, 0, X, 1000, VX, 0, FACING, 0, TIMER, 0);
        Check.gives("no shot of it", () -> other.boxes(0), 1);
    }

    private static void holding() {
        Rollbacker x = runnerAlone(48, -48);
        x.press(0, 2 + 4);
        x.tick(1);
        is("held at 48", x, 0, X, 1048, Y, 952, VX, 42, VY, -42);
        Rollbacker y = runnerAlone(-47, 46);
        y.press(0, 1 + 8);
        y.tick(1);
        is("held", y, 0, X, 952, Y, 1048, VX, -42, VY, 42);
        // The script makes it 90 behind the holding of the first step; the second step holds it without an input.
        Rollbacker z = new Rollbacker();
        addScript(z, "a48,-48 a42,-42");
        scripted(z, 0, 1000, 1000, 0, 0, 0);
        z.start(1);
        z.tick(1);
        is("as the script tells", z, 0, X, 1090, Y, 910, VX, 79, VY, -79);
        z.tick(1);
        is("held without an input", z, 0, X, 1138, Y, 862, VX, 42, VY, -42);
    }

    private static void facing() {
        Rollbacker x = runnerAlone(0, 0);
        int[] inputs = {8, 0, 1, 3, 4, 12, 6, 2, 9, 8, 15, 7, 5, 1, 2, 10};
        int[] due = {1, 1, 2, 2, 3, 3, 3, 0, 0, 1, 1, 1, 1, 2, 0, 0};
        for (int i = 0; i < inputs.length; i++) {
            x.press(0, inputs[i]);
            x.tick(1);
            is("facing by " + inputs[i], x, 0, FACING, due[i]);
        }
    }

    private static void firing() {
        int[] inputs = {2, 8, 1, 4};
        int[] vx = {32, 0, -32, 0};
        int[] vy = {0, 32, 0, -32};
        for (int i = 0; i < 4; i++) {
            Rollbacker x = runnerAlone(0, 0);
            x.press(0, inputs[i] + 16);
            x.tick(1);
            int atX = 1000 + vx[i] / 8;
            int atY = 1000 + vy[i] / 8;
            is("fires", x, 0, X, atX, Y, atY, TIMER, 8);
            is("shot", x, 1, 0, 1, 1, 2, X, atX, Y, atY, VX, vx[i], VY, vy[i], 6, 2, HITS, 1, 8, 0);
            is("shot", x, 1, TIMER, 20, FACING, i, SCRIPT, -1, NEXT, 0, WAIT, 0, TOUCHED, 0);
        }
        Rollbacker x = runnerAlone(0, 0);
        x.press(0, 16);
        x.tick(8);
        is("timer", x, 0, TIMER, 1);
        Check.gives("one shot in 8 steps", () -> x.boxes(0), 2);
        x.tick(1);
        is("timer again", x, 0, TIMER, 8);
        Check.gives("two shots in 9 steps", () -> x.boxes(0), 3);
        is("the first shot goes", x, 1, X, 1000 + 8 * 32, TIMER, 12);
        Check.gives("its owner is not touched", () -> x.field(0, 0, TOUCHED), 0);
        // The timer is no matter for a script, nor a script for the timer.
        Rollbacker y = new Rollbacker();
        addScript(y, "f f");
        scripted(y, 0, 1000, 1000, 0, 0, 0);
        y.start(1);
        y.press(0, 16);
        y.tick(1);
        Check.gives("three shots", () -> y.boxes(0), 4);
        is("timer of the input", y, 0, TIMER, 8);
    }

    private static void waiting() {
        Rollbacker x = ballWith("w3 v5,0");
        x.tick(1);
        is("set, and less by one ahead of the next", x, 0, WAIT, 2, NEXT, 1, VX, 0);
        x.tick(2);
        is("nothing", x, 0, WAIT, 0, NEXT, 1, VX, 0);
        x.tick(1);
        is("then on, and stopped", x, 0, WAIT, 0, NEXT, 2, VX, 5, SCRIPT, -1);
        Rollbacker y = ballWith("w9");
        y.tick(1);
        is("stopped whatever the wait is", y, 0, WAIT, 9, NEXT, 1, SCRIPT, -1);
        y.tick(1);
        is("and stays so", y, 0, WAIT, 9, NEXT, 1, SCRIPT, -1);
        Rollbacker z = ballWith("w1 v5,0");
        z.tick(1);
        is("a wait of 1 takes one step", z, 0, WAIT, 0, VX, 0);
        z.tick(1);
        is("and no more", z, 0, VX, 5);
    }

    private static void touching() {
        Rollbacker x = new Rollbacker();
        addScript(x, "t v0,7");
        scripted(x, 1, 1000, 1000, 0, 0, 0);
        box(x, 1, 1040, 1000, -12, 0);
        x.start(1);
        x.tick(1);
        is("stays", x, 0, NEXT, 0, SCRIPT, 0, TOUCHED, 0, VY, 0);
        x.tick(1);
        is("touched in this step, stays", x, 0, NEXT, 0, TOUCHED, 1, VY, 0);
        is("the other one too", x, 1, TOUCHED, 1);
        x.tick(1);
        is("goes on", x, 0, NEXT, 2, SCRIPT, -1, VY, 7, TOUCHED, 0);
        is("touched no more", x, 1, TOUCHED, 0);
    }

    private static void speeds() {
        Rollbacker x = ballWith("v5,-6 w1 a-7,9 w1 a1,1");
        x.tick(1);
        is("v", x, 0, VX, 5, VY, -6, X, 1005, Y, 994);
        x.tick(1);
        is("a", x, 0, VX, -2, VY, 3, X, 1003, Y, 997);
        x.tick(1);
        is("a", x, 0, VX, -1, VY, 4);
        Rollbacker y = new Rollbacker();
        addScript(y, "v5,6");
        scripted(y, 3, 1000, 1000, 0, 0, 0);
        y.start(1);
        y.tick(2);
        is("a wall has a speed, but stays", y, 0, VX, 5, VY, 6, X, 1000, Y, 1000, SCRIPT, -1);
    }

    private static void goingOn() {
        Rollbacker x = ballWith("a1,0 g3 a20,0 w1 g0");
        x.tick(1);
        is("over one", x, 0, VX, 1, NEXT, 4, WAIT, 0);
        x.tick(1);
        is("back", x, 0, VX, 2, NEXT, 4, WAIT, 0);
        Rollbacker y = ballWith("g11");
        y.tick(1);
        is("behind the last one", y, 0, NEXT, 11, SCRIPT, -1);
        Rollbacker z = ballWith("g1 g2 v9,9");
        z.tick(1);
        is("to the next one", z, 0, VX, 9, NEXT, 3, SCRIPT, -1);
    }

    private static void stopping() {
        Rollbacker none = ballWith("");
        is("as built", none, 0, SCRIPT, 0);
        none.tick(1);
        is("no operations", none, 0, SCRIPT, -1, NEXT, 0);
        Rollbacker x = ballWith("a1,0 g0");
        x.tick(1);
        is("eight are done", x, 0, VX, 4, SCRIPT, -1, NEXT, 0);
        x.tick(1);
        is("and it has stopped", x, 0, VX, 4, SCRIPT, -1);
        Rollbacker eight = ballWith("a1,0 a1,0 a1,0 a1,0 a1,0 a1,0 a1,0 w5 a1,0");
        eight.tick(1);
        is("the wait applies first", eight, 0, VX, 7, SCRIPT, 0, WAIT, 4, NEXT, 8);
        eight.tick(5);
        is("it went on", eight, 0, VX, 8, SCRIPT, -1, NEXT, 9);
        Rollbacker ninth = ballWith("a1,0 a1,0 a1,0 a1,0 a1,0 a1,0 a1,0 a1,0 t");
        ninth.tick(1);
        is("whatever comes next", ninth, 0, VX, 8, SCRIPT, -1, NEXT, 8);
        Rollbacker ended = ballWith("a1,0 a1,0 a1,0 a1,0 a1,0 a1,0 a1,0 e");
        ended.tick(1);
        Check.gives("the eighth is done", () -> ended.boxes(0), 0);
    }

    private static void randomSpeeds() {
        Rollbacker x = new Rollbacker();
        addScript(x, "r20 r1");
        scripted(x, 1, 1000, 1000, 3, 0, 0);
        scripted(x, 1, 2000, 2000, 0, 0, 0);
        x.start(1);
        x.tick(1);
        int seed = 1;
        int[] due = {3, 0};
        for (int i = 0; i < 2; i++) {
            for (int a : new int[] {20, 1}) {
                seed = seed * 1103515245 + 12345;
                due[i] += ((seed >>> 16) & 0x7fff) % (2 * a + 1) - a;
            }
        }
        is("first box", x, 0, VX, due[0], VY, 0);
        is("second box", x, 1, VX, due[1], VY, 0);
        // The seed goes on from step to step.
        Rollbacker y = ballWith("r20 w1 r20");
        y.tick(2);
        int first = 1103515245 + 12345;
        int second = 1103515245 * first + 12345;
        int both = (first >>> 16 & 0x7fff) % 41 + (second >>> 16 & 0x7fff) % 41 - 40;
        is("in two steps", y, 0, VX, both);
    }

    private static void ending() {
        Rollbacker x = new Rollbacker();
        addScript(x, "e v9,9");
        scripted(x, 1, 1000, 1000, 5, 0, 0);
        box(x, 1, 1010, 1000, 0, 0);
        x.start(1);
        x.tick(1);
        Check.gives("destroyed", () -> x.boxes(0), 1);
        is("nothing touches it", x, 1, TOUCHED, 0, X, 1010);
        Check.gives("no effect", () -> x.effects(0, 0), 0);
        Rollbacker nothing = ballWith("e f");
        nothing.tick(1);
        Check.gives("it does nothing any more", () -> nothing.boxes(0), 0);
        Rollbacker shooting = new Rollbacker();
        addScript(shooting, "w2 e");
        scripted(shooting, 1, 1100, 1000, 0, 0, 0);
        box(shooting, 0, 1000, 1000, 0, 0);
        shooting.start(1);
        shooting.press(0, 16);
        shooting.tick(5);
        Check.gives("a shot goes where it was", () -> shooting.boxes(0), 2);
    }

    private static void moving() {
        Rollbacker x = new Rollbacker();
        box(x, 0, 1000, 1000, 15, -17);
        box(x, 1, 2000, 2000, 15, -17);
        box(x, 3, 3000, 3000, 15, -17);
        x.start(1);
        x.tick(1);
        is("a runner gets slower", x, 0, X, 1015, Y, 983, VX, 14, VY, -15);
        is("a ball does not", x, 1, X, 2015, Y, 1983, VX, 15, VY, -17);
        is("a wall stays", x, 2, X, 3000, Y, 3000, VX, 15, VY, -17);
    }

    private static void edges() {
        Rollbacker x = new Rollbacker();
        box(x, 1, 20, 4080, -47, 21);
        box(x, 1, 4080, 20, 21, -48);
        box(x, 1, 30, 3000, -20, 10);
        box(x, 0, 30, 1000, -40, 0);
        box(x, 1, 2000, 4075, 0, 10);
        x.start(1);
        x.tick(1);
        is("thrown back", x, 0, X, 10, Y, 4085, VX, 35, VY, -15);
        is("thrown back", x, 1, X, 4085, Y, 10, VX, -15, VY, 36);
        is("just at the edge", x, 2, X, 10, Y, 3010, VX, -20, VY, 10);
        is("just at the other edge", x, 4, X, 2000, Y, 4085, VX, 0, VY, 10);
        is("a runner is slowed first", x, 3, X, 10, VX, 26);
        int[][] near = {{30, 1000, 1}, {4065, 1000, 2}, {1000, 30, 4}, {1000, 4065, 8}};
        for (int[] at : near) {
            Rollbacker y = new Rollbacker();
            box(y, 0, at[0], at[1], 0, 0);
            y.start(1);
            y.press(0, 16 + at[2]);
            y.tick(1);
            Check.gives("a shot", () -> y.boxes(0), 2);
            y.press(0, 0);
            y.tick(1);
            Check.gives("is destroyed at the edge", () -> y.boxes(0), 1);
            Check.gives("without an effect", () -> y.effects(0, 1), 0);
        }
    }

    private static Rollbacker couple(int firstKind, int secondKind, int... numbers) {
        Rollbacker x = new Rollbacker();
        box(x, firstKind, numbers[0], numbers[1], numbers[2], numbers[3]);
        box(x, secondKind, numbers[4], numbers[5], numbers[6], numbers[7]);
        x.start(1);
        x.tick(1);
        return x;
    }

    private static void overlapping() {
        Rollbacker beside = couple(1, 1, 1000, 1000, 0, 0, 1020, 1000, 0, 0);
        Check.gives("beside", () -> beside.effects(0, 0), 0);
        Rollbacker below = couple(1, 1, 1000, 1000, 0, 0, 1000, 1020, 0, 0);
        Check.gives("below", () -> below.effects(0, 0), 0);
        Rollbacker corner = couple(1, 1, 1000, 1000, 0, 0, 981, 981, 0, 0);
        Check.gives("by a corner", () -> corner.effectAt(0, 0, 0), 4001);
        is("along x if both are the same", corner, 0, X, 1000, Y, 1000, TOUCHED, 1);
        is("along x if both are the same", corner, 1, X, 980, Y, 981, TOUCHED, 1);
        Rollbacker walls = couple(3, 3, 1000, 1000, 0, 0, 1005, 1000, 0, 0);
        Check.gives("two walls", () -> walls.effects(0, 0), 0);
        is("two walls", walls, 0, X, 1000, TOUCHED, 0);
        Rollbacker behind = couple(1, 1, 1000, 1000, 12, 0, 1030, 1000, 0, 0);
        Check.gives("behind the motion", () -> behind.effects(0, 0), 1);
    }

    private static void walls() {
        Rollbacker right = couple(3, 1, 1000, 1000, 0, 0, 1017, 1001, -5, 3);
        is("to the right", right, 1, X, 1020, Y, 1004, VX, 3, VY, 3, TOUCHED, 1);
        is("the wall", right, 0, X, 1000, VX, 0, TOUCHED, 1);
        Check.gives("effect", () -> right.effectAt(0, 0, 0), 3001);
        Rollbacker left = couple(1, 3, 980, 1001, 5, 3, 1000, 1000, 0, 0);
        is("to the left", left, 0, X, 980, Y, 1004, VX, -3, VY, 3);
        Check.gives("effect", () -> left.effectAt(0, 0, 0), 3001);
        Rollbacker leaving = couple(3, 1, 1000, 1000, 0, 0, 1010, 1000, 5, 0);
        is("it leaves already", leaving, 1, X, 1020, VX, 5);
        Rollbacker leavingLeft = couple(3, 1, 1000, 1000, 0, 0, 990, 1000, -5, 0);
        is("it leaves already", leavingLeft, 1, X, 980, VX, -5);
        Rollbacker down = couple(3, 1, 1000, 1000, 0, 0, 1002, 1018, 1, -7);
        is("down", down, 1, X, 1003, Y, 1020, VX, 1, VY, 5);
        Rollbacker up = couple(3, 0, 1000, 1000, 0, 0, 1002, 980, 1, 9);
        is("up, a runner, slowed first", up, 1, X, 1003, Y, 980, VX, 1, VY, -6);
        Rollbacker slow = couple(3, 1, 1000, 1000, 0, 0, 1011, 1000, -1, 0);
        is("slowly", slow, 1, X, 1020, VX, 0);
        Rollbacker slowLeft = couple(3, 1, 1000, 1000, 0, 0, 989, 1000, 1, 0);
        is("slowly", slowLeft, 1, X, 980, VX, 0);
        Rollbacker same = couple(3, 1, 1000, 1000, 0, 0, 1000, 1000, 0, 0);
        is("at the same place", same, 1, X, 1020, Y, 1000);
        Rollbacker fast = couple(1, 3, 1000, 1000, 0, 0, 1001, 1000, -9, 0);
        is("the speed of a wall is no matter", fast, 0, X, 981, VX, 0);
    }

    private static void boxesApart() {
        Rollbacker rising = couple(1, 1, 1000, 1000, 5, 3, 1015, 1000, -3, 1);
        is("first", rising, 0, X, 999, Y, 1003, VX, -3, VY, 3);
        is("second", rising, 1, X, 1019, Y, 1001, VX, 5, VY, 1);
        Rollbacker falling = couple(1, 1, 1015, 1000, -3, 1, 1000, 1000, 5, 3);
        is("first", falling, 0, X, 1018, VX, 5, VY, 1);
        is("second", falling, 1, X, 998, VX, -3, VY, 3);
        Rollbacker apart = couple(1, 1, 1000, 1000, -2, 0, 1010, 1000, 2, 0);
        is("not nearer", apart, 0, X, 995, VX, -2);
        is("not nearer", apart, 1, X, 1015, VX, 2);
        Rollbacker equal = couple(1, 0, 1000, 1000, 4, 0, 1010, 1000, 4, 0);
        is("as fast", equal, 0, X, 999, VX, 4);
        is("as fast", equal, 1, X, 1019, VX, 4);
        Rollbacker chased = couple(1, 1, 1010, 1000, 1, 0, 1000, 1000, 4, 0);
        is("from behind", chased, 0, VX, 4);
        is("from behind", chased, 1, VX, 1);
        Rollbacker down = couple(1, 1, 1000, 1000, 3, 6, 1003, 1013, 1, -2);
        is("along y", down, 0, X, 1003, Y, 999, VX, 3, VY, -2);
        is("along y", down, 1, X, 1004, Y, 1019, VX, 1, VY, 6);
        Rollbacker up = couple(1, 1, 1003, 1013, 1, -2, 1000, 1000, 3, 6);
        is("along y, the second one above", up, 0, X, 1004, Y, 1018, VX, 1, VY, 6);
        is("along y, the second one above", up, 1, X, 1003, Y, 998, VX, 3, VY, -2);
        Rollbacker same = couple(1, 1, 1000, 1000, 0, 0, 1000, 1000, 0, 0);
        is("at the same place", same, 0, X, 990, Y, 1000);
        is("at the same place", same, 1, X, 1010, Y, 1000);
    }

    private static void boxesMovedBefore() {
        // 0 and 1 part first, so that 1 does not overlap 2 any more when its turn comes; it is touched all the same.
        Rollbacker x = new Rollbacker();
        box(x, 1, 1018, 1000, 0, 0);
        box(x, 1, 1002, 1000, 4, 0);
        box(x, 1, 1024, 1000, 0, 0);
        x.start(1);
        x.tick(1);
        // 0 at 1018, 1 at 1006, 2 at 1024; depth of (0, 1) is 8: 1022, 1002; speeds 0 and 4 are exchanged.
        // (0, 2): depth 18: 1013, 1033, and 4 > 0 is exchanged. (1, 2): none left: axis x, no move.
        is("0", x, 0, X, 1013, VX, 0);
        is("1", x, 1, X, 1002, VX, 0);
        is("2", x, 2, X, 1033, VX, 4);
        Check.gives("all couples found", () -> x.effects(0, 0), 3);
        Check.gives("0 and 1", () -> x.effectAt(0, 0, 0), 4001);
        Check.gives("0 and 2", () -> x.effectAt(0, 0, 1), 4002);
        Check.gives("1 and 2", () -> x.effectAt(0, 0, 2), 4022);
        // The same along y.
        Rollbacker y = new Rollbacker();
        box(y, 1, 1000, 1018, 0, 0);
        box(y, 1, 1000, 1002, 0, 4);
        box(y, 1, 1000, 1024, 0, 0);
        y.start(1);
        y.tick(1);
        is("0", y, 0, X, 1000, Y, 1013, VY, 0);
        is("1", y, 1, X, 1000, Y, 1002, VY, 0);
        is("2", y, 2, X, 1000, Y, 1033, VY, 4);
        Check.gives("all couples found", () -> y.effects(0, 0), 3);
    }

    private static void allOverlap() {
        Rollbacker x = new Rollbacker();
        for (int i = 0; i < 16; i++) {
            x.addBox(1, 1000 + i, 1000 + i, 255, 1, 0, -1);
        }
        x.start(1);
        x.tick(1);
        Check.gives("all couples", () -> x.effects(0, 0), 120);
        int index = 0;
        for (int first = 0; first < 16; first++) {
            for (int second = first + 1; second < 16; second++) {
                int at = index;
                Check.gives("by rising places", () -> x.effectAt(0, 0, at), 4000 + 20 * first + second);
                index++;
            }
        }
        Check.gives("sound", x::isSound, true);
        Check.gives("the same", () -> Check.answerOf(() -> x.difference(0, 0)), "throws.NoSuchElementException");
    }

    private static void shotsAndTheirOwners() {
        // The half of the box is so great that its shot is upon it for a step.
        for (int ahead = 0; ahead < 2; ahead++) {
            Rollbacker x = new Rollbacker();
            addScript(x, "f");
            addScript(x, "e");
            if (ahead == 1) {
                scripted(x, 1, 3000, 3000, 0, 0, 1);
            }
            x.addBox(1, 1000, 1000, 60, 1, 0, 0);
            x.start(1);
            x.tick(2);
            int shot = 1 - ahead;
            Check.gives("it goes through", () -> x.boxes(0), 2);
            Check.gives("no effect", () -> x.effects(0, 1), 0);
            is("the shot", x, shot, 1, 2, X, 1032, TOUCHED, 0, 8, ahead);
            is("the owner", x, ahead, 1, 1, TOUCHED, 0);
        }
        // A wall fires, and its shot meets what is beside it.
        Rollbacker y = new Rollbacker();
        addScript(y, "f");
        y.addBox(3, 1000, 1000, 60, 1, 0, 0);
        y.addBox(1, 1075, 1000, 10, 1, 0, -1);
        y.start(1);
        y.tick(1);
        Check.gives("put", () -> y.boxes(0), 3);
        y.tick(2);
        Check.gives("it meets the other box, not its owner", () -> y.effectAt(0, 2, 0), 2022);
        Check.gives("that alone", () -> y.effects(0, 2), 1);
    }

    private static void shotsMeet() {
        // The shot is at 1000, 1032, 1064, 1096 behind the steps 0 to 3, and reaches what is at 1100 there.
        int[] kinds = {0, 1, 3};
        for (int kind : kinds) {
            Rollbacker x = new Rollbacker();
            box(x, 0, 1000, 1000, 0, 0);
            x.addBox(kind, 1100, 1000, 10, 2, 2, -1);
            x.start(1);
            x.press(0, 16);
            x.tick(3);
            Check.gives("under way", () -> x.boxes(0), 3);
            x.tick(1);
            Check.gives("the shot is gone", () -> x.boxes(0), 2);
            is("target", x, 1, X, 1100, VX, 0, TOUCHED, 1, HITS, kind == 0 ? 1 : 2);
            int due = kind == 0 ? 1022 : 2022;
            Check.gives("effect", () -> x.effectAt(0, 3, 0), due);
            x.tick(8);
            Check.gives("the second one", () -> x.boxes(0), kind == 0 ? 1 : 2);
        }
        // The shot of a box at a later place comes first in the couple.
        Rollbacker y = new Rollbacker();
        addScript(y, "e");
        scripted(y, 1, 3000, 3000, 0, 0, 0);
        box(y, 0, 1000, 1000, 0, 0);
        y.addBox(0, 1100, 1000, 10, 1, 2, -1);
        y.start(1);
        y.press(0, 16);
        y.tick(4);
        Check.gives("first place", () -> y.effectAt(0, 3, 0), 1002);
        Check.gives("destroyed at 0 hits", () -> y.boxes(0), 1);
        // Two shots that overlap: fired at once by one box.
        Rollbacker z = ballWith("f f");
        z.tick(3);
        Check.gives("two shots do nothing", () -> z.boxes(0), 3);
        is("at one place", z, 1, X, 1064);
        is("at one place", z, 2, X, 1064, TOUCHED, 0);
        // The first couple destroys the shot, the second one does nothing then.
        Rollbacker two = new Rollbacker();
        box(two, 0, 1000, 1000, 0, 0);
        two.addBox(1, 1100, 990, 10, 1, 0, -1);
        two.addBox(1, 1100, 1010, 10, 1, 0, -1);
        two.start(1);
        two.press(0, 16);
        two.tick(4);
        Check.gives("one effect", () -> two.effects(0, 3), 1);
        is("the first one", two, 1, TOUCHED, 1);
        is("not the second one", two, 2, TOUCHED, 0);
    }

    private static void shotsDone() {
        Rollbacker x = runnerAlone(0, 0);
        x.press(0, 16);
        x.tick(1);
        x.press(0, 0);
        x.tick(19);
        is("its last step", x, 1, TIMER, 1, X, 1000 + 19 * 32);
        x.tick(1);
        Check.gives("gone", () -> x.boxes(0), 1);
    }

    private static void firedFromDestroyed() {
        // 0 fires; 1 fires and ends; the shot of 0 takes the place 1, and that of 1 begins where 1 was last.
        Rollbacker x = new Rollbacker();
        addScript(x, "f");
        addScript(x, "f e");
        scripted(x, 1, 1000, 1000, 5, 0, 0);
        scripted(x, 1, 2000, 2000, 7, 0, 1);
        x.start(1);
        x.tick(1);
        is("the shot of 0, where 0 is then", x, 1, 0, 2, 1, 2, X, 1005, Y, 1000, 8, 0);
        is("the shot of 1, where 1 was last", x, 2, 0, 1, 1, 2, X, 2000, Y, 2000, 8, 1);
        // A shot at the place of its own owner, and a box there that is not its owner any more.
        Rollbacker own = ballWith("f e");
        own.tick(1);
        is("at its owner's place", own, 0, 0, 2, 1, 2, 8, 0, X, 1000, NEXT, 0, WAIT, 0, TOUCHED, 0);
        own.tick(20);
        Check.gives("gone", () -> own.boxes(0), 0);
    }

    private static void noPlaceForShots() {
        Rollbacker x = new Rollbacker();
        addScript(x, "f f f f f f f f");
        for (int i = 0; i < 14; i++) {
            scripted(x, 3, 200 + 200 * i, 1000, 0, 0, 0);
        }
        x.start(1);
        x.tick(1);
        Check.gives("two of 112", () -> x.boxes(0), 16);
        is("the first one", x, 14, 8, 0);
        is("the second one", x, 15, 8, 0);
    }

    private static void allFire() {
        Rollbacker x = new Rollbacker();
        addScript(x, "f f f f f f f f");
        for (int i = 0; i < 16; i++) {
            scripted(x, 0, 200 + 200 * i, 1000, 0, 0, 0);
        }
        x.start(1);
        x.press(0, 16);
        x.tick(1);
        Check.gives("all shots are lost", () -> x.boxes(0), 16);
        for (int i = 0; i < 16; i++) {
            is("it has fired", x, i, 1, 0, TIMER, 8, NEXT, 8, SCRIPT, -1);
        }
        Check.gives("none differs", () -> Check.answerOf(() -> x.differentField(0, 0)),
                "throws.NoSuchElementException");
    }

    private static void generations() {
        Rollbacker x = ballWith("w1 e");
        x.tick(2);
        Check.gives("none", () -> x.boxes(0), 0);
        Rollbacker y = new Rollbacker();
        addScript(y, "e");
        scripted(y, 1, 3000, 3000, 0, 0, 0);
        box(y, 0, 1000, 1000, 0, 0);
        y.start(1);
        y.press(0, 16);
        y.tick(1);
        is("the second box there", y, 0, 0, 2);
        y.press(0, 0);
        y.tick(20);
        Check.gives("gone", () -> y.boxes(0), 1);
        y.press(0, 16);
        y.tick(1);
        is("the third one", y, 0, 0, 3);
        is("the runner is the first one still", y, 1, 0, 1);
    }
}
