import java.lang.management.ManagementFactory;

/** No call of the face makes an object or an array, but the exception that it throws: rule 12 of the language. */
public final class RoomTest {
    private interface Call {
        void run(Rollbacker x);
    }

    // What else the machine makes in this thread comes once, so the least of some rounds is the call's own.
    private static final int ROUNDS = 3;
    private static final com.sun.management.ThreadMXBean BEAN =
            (com.sun.management.ThreadMXBean) ManagementFactory.getThreadMXBean();

    private static final String[] NAMES = {
        "addScript", "addOperation f", "addOperation g", "addBox runner 0", "addBox runner 1", "addBox ball", "push",
        "start", "press", "setDelay", "lose", "tick", "hashWith", "loneHash", "tick on", "isSound", "tick on",
        "hash", "field", "boxes", "cheat", "difference", "differentPlace", "differentField", "steps", "waste",
        "shown", "cancelled", "effects", "effectAt", "done", "owed", "confirmed", "known", "stalls", "takenBack",
        "flying",
    };
    private static final Call[] CALLS = {
        x -> x.addScript(),
        x -> x.addOperation(0, 'f', 0, 0),
        x -> x.addOperation(0, 'g', 0, 0),
        x -> x.addBox(0, 100, 100, 16, 9, 0, 0),
        x -> x.addBox(0, 400, 100, 16, 9, 1, -1),
        x -> x.addBox(1, 130, 100, 20, 9, 0, -1),
        x -> x.push(2, 3, 4),
        x -> x.start(3),
        x -> x.press(0, 18),
        x -> x.setDelay(0, 1, 4),
        x -> x.lose(1, 0, 3),
        x -> x.tick(20),
        x -> x.hashWith(2, 1, 4, 5),
        x -> x.loneHash(7),
        x -> x.tick(20),
        x -> x.isSound(),
        x -> x.tick(20),
        x -> x.hash(0, 1),
        x -> x.field(0, 0, 2),
        x -> x.boxes(0),
        x -> cheatUntilConfirmed(x),
        x -> x.difference(0, 1),
        x -> x.differentPlace(0, 1),
        x -> x.differentField(0, 1),
        x -> x.steps(),
        x -> x.waste(),
        x -> x.shown(0),
        x -> x.cancelled(0),
        x -> x.effects(0, 0),
        x -> x.effectAt(0, 0, 0),
        x -> x.done(0),
        x -> x.owed(0),
        x -> x.confirmed(0),
        x -> x.known(0, 1),
        x -> x.stalls(0),
        x -> x.takenBack(0),
        x -> x.flying(),
    };

    public static void main(String[] args) {
        Check.gives("names", () -> NAMES.length, CALLS.length);
        long[] least = new long[CALLS.length];
        java.util.Arrays.fill(least, Long.MAX_VALUE);
        for (int round = 0; round < ROUNDS; round++) {
            Rollbacker x = new Rollbacker();
            for (int i = 0; i < CALLS.length; i++) {
                least[i] = Math.min(least[i], bytesOf(CALLS[i], x));
            }
        }
        long none = bytesOf(x -> { }, null);
        none = Math.min(none, bytesOf(x -> { }, null));
        for (int i = 0; i < CALLS.length; i++) {
            long made = least[i] - none;
            Check.gives("bytes made by " + NAMES[i], () -> made, 0L);
        }
        Check.end("RoomTest");
    }

    /** No input changes any more, so that nothing takes back what was cheated. */
    private static void cheatUntilConfirmed(Rollbacker x) {
        x.cheat(0, 2, 7, 1);
        x.tick(20);
    }

    private static long bytesOf(Call call, Rollbacker x) {
        long thread = Thread.currentThread().getId();
        long before = BEAN.getThreadAllocatedBytes(thread);
        call.run(x);
        return BEAN.getThreadAllocatedBytes(thread) - before;
    }
}
