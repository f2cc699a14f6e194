/** What the edge tests share: worlds that are built in a line, and answers that are read in one. */
final class Games {
    static final Class<IllegalStateException> STATE = IllegalStateException.class;
    static final Class<IllegalArgumentException> ARGUMENT = IllegalArgumentException.class;
    static final Class<IndexOutOfBoundsException> INDEX = IndexOutOfBoundsException.class;
    static final Class<java.util.NoSuchElementException> ELEMENT = java.util.NoSuchElementException.class;

    static final int RUNNER = 0;
    static final int BALL = 1;
    static final int SHOT = 2;
    static final int WALL = 3;

    static final int GENERATION = 0;
    static final int KIND = 1;
    static final int X = 2;
    static final int Y = 3;
    static final int VX = 4;
    static final int VY = 5;
    static final int HALF = 6;
    static final int HITS = 7;
    static final int OWNER = 8;
    static final int TIMER = 9;
    static final int FACING = 10;
    static final int SCRIPT = 11;
    static final int NEXT = 12;
    static final int WAIT = 13;
    static final int TOUCHED = 14;

    private Games() {
    }

    /** A box with a half of 10 and 2 hits, for player 0 if it is a runner. */
    static int box(Rollbacker x, int kind, int atX, int atY, int script) {
        return x.addBox(kind, atX, atY, 10, 2, 0, script);
    }

    static int pushed(Rollbacker x, int kind, int atX, int atY, int vx, int vy) {
        int place = box(x, kind, atX, atY, -1);
        x.push(place, vx, vy);
        return place;
    }

    /** Operations in one text, such as "w3 v5,-6 e". */
    static int script(Rollbacker x, String operations) {
        int number = x.addScript();
        for (String operation : operations.isEmpty() ? new String[0] : operations.split(" ")) {
            String[] numbers = operation.substring(1).split(",");
            int a = numbers[0].isEmpty() ? 0 : Integer.parseInt(numbers[0]);
            int b = numbers.length < 2 ? 0 : Integer.parseInt(numbers[1]);
            x.addOperation(number, operation.charAt(0), a, b);
        }
        return number;
    }

    /** A game of one player with one box that has a script, at the place 0. */
    static Rollbacker scripted(int kind, String operations) {
        Rollbacker x = new Rollbacker();
        box(x, kind, 1000, 1000, script(x, operations));
        x.start(1);
        return x;
    }

    /** A game of one player with one box that has a speed, at the place 0, behind its first step. */
    static Rollbacker moved(int kind, int atX, int atY, int vx, int vy) {
        Rollbacker x = new Rollbacker();
        pushed(x, kind, atX, atY, vx, vy);
        x.start(1);
        x.tick(1);
        return x;
    }

    /** A game with a runner of each player, far from one another, with 9 hits each. */
    static Rollbacker runners(int players) {
        Rollbacker x = new Rollbacker();
        for (int i = 0; i < players; i++) {
            x.addBox(RUNNER, 500 + 1000 * i, 1000, 10, 9, i, -1);
        }
        x.start(players);
        return x;
    }

    /** As many ticks as told, at most 20 in a call. */
    static void pass(Rollbacker x, int ticks) {
        for (int left = ticks; left > 0; left -= 20) {
            x.tick(Math.min(20, left));
        }
    }

    /** Fields of a box in the world of peer 0, with the values that are due. */
    static void is(String what, Rollbacker x, int place, int... fieldsAndValues) {
        for (int i = 0; i < fieldsAndValues.length; i += 2) {
            int field = fieldsAndValues[i];
            int due = fieldsAndValues[i + 1];
            Check.gives(what + ", place " + place + " field " + field, () -> x.field(0, place, field), due);
        }
    }

    static int digest(int seed, int[]... boxes) {
        int sum = 17;
        for (int place = 0; place < boxes.length; place++) {
            if (boxes[place] != null) {
                sum = 31 * sum + place;
                for (int field : boxes[place]) {
                    sum = 31 * sum + field;
                }
            }
        }
        return 31 * sum + seed;
    }
}
