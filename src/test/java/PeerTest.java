import com.sun.management.ThreadMXBean;
import java.lang.management.ManagementFactory;

/** Ticks, packets, taking back, stalls, and effects that are shown early and late, worked out by hand. */
public final class PeerTest {
    public static void main(String[] args) {
        firstTicks();
        foretelling();
        budget();
        unconfirmed();
        inputsOfStalledPeers();
        threePeers();
        lastStep();
        cancelledWhenNothingIsOwed();
        shownWhileOwing();
        shownAgain();
        cheatsBehindWhatIsTakenBack();
        roomOfALongRun();
        Check.end("PeerTest");
    }

    private static Rollbacker runners(int players, int... atX) {
        Rollbacker x = new Rollbacker();
        for (int i = 0; i < atX.length; i++) {
            x.addBox(0, atX[i], 1000, 10, 9, i, -1);
        }
        x.start(players);
        return x;
    }

    private static void are(String what, Rollbacker x, int peer, int done, int owed, int confirmed, int stalls,
            int back) {
        Check.gives(what + ", done", () -> x.done(peer), done);
        Check.gives(what + ", owed", () -> x.owed(peer), owed);
        Check.gives(what + ", confirmed", () -> x.confirmed(peer), confirmed);
        Check.gives(what + ", stalls", () -> x.stalls(peer), stalls);
        Check.gives(what + ", taken back", () -> x.takenBack(peer), back);
    }

    private static void firstTicks() {
        Rollbacker x = runners(2, 1000, 2000);
        are("ahead of all", x, 0, 0, 0, 0, 0, 0);
        x.tick(1);
        are("nothing has come", x, 1, 1, 0, 0, 0, 0);
        x.tick(1);
        are("a packet takes a tick", x, 0, 2, 0, 1, 0, 0);
        // Peer 1 has its turn behind peer 0, but a packet never arrives in the tick in which it is sent.
        are("so for the later peer", x, 1, 2, 0, 1, 0, 0);
        x.setDelay(0, 1, 3);
        x.tick(1);
        Check.gives("what was sent before comes as told then", () -> x.known(1, 0), 2);
        x.tick(2);
        Check.gives("what is sent now comes later", () -> x.known(1, 0), 2);
        x.tick(1);
        Check.gives("now it does", () -> x.known(1, 0), 3);
    }

    private static void foretelling() {
        Rollbacker x = runners(2, 1000, 2000);
        x.press(1, 2);
        x.tick(1);
        Check.gives("0 if nothing is known", () -> x.field(0, 1, 2), 2000);
        x.tick(1);
        Check.gives("then the last one that is known", () -> x.field(0, 1, 2), 2012);
        x.press(1, 8);
        x.tick(1);
        Check.gives("though it is another one now", () -> x.field(0, 1, 5), 0);
        Check.gives("at peer 1", () -> x.field(1, 1, 5), 4);
        // Peer 0 hears nothing of the steps 3 and 4 then.
        x.lose(1, 0, 2);
        x.tick(1);
        x.press(1, 2);
        x.tick(1);
        are("heard of one down, and foretells down", x, 0, 5, 0, 3, 0, 1 + 1);
        x.tick(2);
        // The step 3 was foretold well, the steps 4 and 5 were not.
        are("goes back ahead of the first wrong step", x, 0, 7, 0, 6, 0, 1 + 1 + 2);
        Check.gives("as peer 1", () -> x.hash(0, 5), x.hash(1, 5));
    }

    private static void budget() {
        for (int owing = 1; owing <= 10; owing++) {
            Rollbacker x = runners(2, 1000, 2000);
            x.press(1, 2);
            x.lose(1, 0, owing - 1);
            x.tick(owing);
            are("done", x, 0, owing, 0, 0, 0, 0);
            x.tick(1);
            int done = owing < 8 ? owing + 1 : 8;
            int owed = owing > 8 ? owing - 8 : 0;
            are("owing " + owing, x, 0, done, owed, Math.min(owing, 8), owing < 8 ? 0 : 1, owing);
            x.tick(1);
            are("a tick later", x, 0, owing < 8 ? owing + 2 : owing + 1, 0, owing < 8 ? owing + 1 : owing + 1,
                    owing < 8 ? 0 : 1, owing);
        }
    }

    private static void unconfirmed() {
        Rollbacker x = runners(2, 1000, 2000);
        x.setDelay(1, 0, 9);
        x.tick(9);
        are("nine", x, 0, 9, 0, 0, 0, 0);
        x.tick(1);
        are("ten, of which one is confirmed", x, 0, 10, 0, 1, 0, 0);
        x.tick(10);
        are("a delay of 9 makes none wait", x, 0, 20, 0, 11, 0, 0);
        x.lose(1, 0, 1);
        x.tick(8);
        are("under way yet", x, 0, 28, 0, 19, 0, 0);
        x.tick(1);
        are("nine are not confirmed, one more", x, 0, 29, 0, 20, 0, 0);
        x.lose(1, 0, 2);
        x.tick(12);
        Check.gives("two packets less: one stall", () -> x.stalls(0), 1);
    }

    private static void inputsOfStalledPeers() {
        Rollbacker x = runners(2, 1000, 2000);
        x.lose(1, 0, 12);
        x.tick(10);
        x.press(0, 2);
        x.tick(1);
        are("stalled", x, 0, 10, 0, 0, 1, 0);
        Check.gives("no input is made", () -> x.known(0, 0), 10);
        x.press(0, 8);
        x.tick(3);
        Check.gives("down alone was pressed", () -> x.field(0, 0, 4), 0);
        Check.gives("down", () -> x.field(0, 0, 5), 4);
    }

    private static void threePeers() {
        Rollbacker x = runners(3, 1000, 2000, 3000);
        x.lose(2, 0, 5);
        x.press(2, 2);
        x.press(1, 1);
        x.tick(5);
        Check.gives("2 is not heard", () -> x.known(0, 2), 0);
        Check.gives("nor told by 1", () -> x.known(1, 2), 4);
        Check.gives("1 is heard", () -> x.known(0, 1), 4);
        are("least of both", x, 0, 5, 0, 0, 0, 1);
        are("of peer 1", x, 1, 5, 0, 4, 0, 1);
        x.tick(2);
        are("2 was heard at last", x, 0, 7, 0, 6, 0, 1 + 6);
        Check.gives("the same", () -> x.hash(0, 5), x.hash(2, 5));
        Check.gives("all steps", x::steps, 21L + 7 + 1 + 1);
    }

    private static void lastStep() {
        Rollbacker x = runners(2, 1000, 2000);
        for (int i = 0; i < 8; i++) {
            x.tick(20);
        }
        are("150 in all", x, 0, 150, 0, 150, 10, 0);
        Check.gives("it knows all", () -> x.known(0, 1), 150);
        Check.gives("packets go on", x::flying, 2);
        Check.gives("the last one", () -> x.hash(0, 149), x.loneHash(149));
        Check.gives("sound", x::isSound, true);
        // The last steps are taken back and done again, too.
        Rollbacker y = runners(2, 1000, 2000);
        for (int i = 0; i < 7; i++) {
            y.tick(20);
        }
        y.lose(1, 0, 20);
        y.press(1, 2);
        y.tick(20);
        are("ten are not confirmed", y, 0, 150, 0, 140, 10, 0);
        y.tick(2);
        are("eight of ten again", y, 0, 148, 2, 148, 12, 10);
        y.tick(1);
        are("and the last two", y, 0, 150, 0, 150, 13, 10);
        y.tick(1);
        are("no more", y, 0, 150, 0, 150, 14, 10);
        Check.gives("sound", y::isSound, true);
    }

    private static void cancelledWhenNothingIsOwed() {
        Rollbacker x = runners(2, 1000, 1018);
        x.lose(0, 1, 12);
        x.lose(1, 0, 12);
        x.press(1, 2);
        x.tick(13);
        Check.gives("foretold to meet", () -> x.effectAt(0, 0, 0), 4001);
        x.tick(1);
        are("two are owed", x, 0, 8, 2, 8, 4, 10);
        Check.gives("not cancelled yet", () -> x.effects(0, 0) * 10 + x.cancelled(0), 10);
        x.tick(1);
        Check.gives("cancelled now", () -> x.effects(0, 0) * 10 + x.cancelled(0), 1);
        Check.gives("shown it was", () -> x.shown(0), 1);
    }

    private static void shownWhileOwing() {
        // Player 1 goes left once and then right. Peer 0 hears of the left alone at first, and does the steps
        // again as if it went on: they meet in the step 2. Then it hears of the right, while a step is owed.
        Rollbacker x = runners(2, 1000, 1040);
        x.setDelay(1, 0, 9);
        x.press(1, 1);
        x.tick(1);
        x.press(1, 2);
        x.tick(8);
        Check.gives("nothing yet", () -> x.shown(0), 0);
        x.tick(1);
        are("heard of the left", x, 0, 8, 1, 1, 1, 9);
        Check.gives("shown", () -> x.effectAt(0, 2, 0), 4001);
        x.tick(1);
        are("heard of the right", x, 0, 9, 0, 2, 2, 16);
        Check.gives("it did not come when the step was done last", () -> x.effects(0, 2), 0);
        Check.gives("all are cancelled", () -> x.cancelled(0), x.shown(0));
    }

    private static void shownAgain() {
        // What is foretold of player 1 is wrong time and again; in the end both peers show the same.
        Rollbacker x = new Rollbacker();
        x.addBox(0, 1000, 1000, 10, 9, 0, -1);
        x.addBox(0, 1021, 1000, 10, 9, 1, -1);
        x.start(2);
        x.setDelay(1, 0, 2);
        x.press(0, 2);
        x.press(1, 2);
        x.tick(1);
        // Foretold still: 0 is at 1004, and 1 at 1021: they meet in the step 0.
        Check.gives("step 0", () -> x.effects(0, 0), 1);
        x.press(1, 1);
        x.tick(1);
        Check.gives("shown early", () -> x.shown(0) > 0, true);
        int shown = x.shown(0);
        x.tick(1);
        Check.gives("step 0 is cancelled", () -> x.effects(0, 0), 0);
        Check.gives("cancelled", () -> x.cancelled(0) > 0, true);
        x.tick(1);
        Check.gives("as at peer 1", () -> x.effects(0, 1), x.effects(1, 1));
        Check.gives("shown late", () -> x.shown(0) > shown, true);
        x.press(0, 0);
        x.press(1, 0);
        x.tick(20);
        int live = 0;
        for (int step = 0; step < x.done(0); step++) {
            int now = step;
            live += x.effects(0, step);
            Check.gives("the same effects, step " + step, () -> x.effects(0, now), x.effects(1, now));
        }
        int due = live;
        Check.gives("shown less cancelled are there", () -> x.shown(0) - x.cancelled(0), due);
    }

    private static void cheatsBehindWhatIsTakenBack() {
        Rollbacker x = runners(2, 1000, 2000);
        x.tick(3);
        x.cheat(0, 0, 7, 40);
        x.press(1, 2);
        x.tick(2);
        are("one is taken back", x, 0, 5, 0, 4, 0, 1);
        Check.gives("the cheat is behind the step ahead of it", () -> x.field(0, 0, 7), 40);
        Check.gives("it is found", () -> x.difference(0, 1), 2);
        Check.gives("sound but for it", x::isSound, true);
        Check.gives("peer 1 is as it should be", () -> x.hash(1, 3), x.loneHash(3));
    }

    /** A run of 512 calls on a full game makes far less than the room of a run, some 7.3 million fields. */
    private static void roomOfALongRun() {
        ThreadMXBean thread = (ThreadMXBean) ManagementFactory.getThreadMXBean();
        long before = thread.getCurrentThreadAllocatedBytes();
        Rollbacker x = runners(3, 1000, 2000, 3000);
        boolean sound = true;
        for (int i = 0; i < 20; i++) {
            x.press(i % 3, i);
            x.tick(20);
            int last = Math.min(149, x.confirmed(0) - 1);
            for (int j = 0; j < 5; j++) {
                sound &= x.isSound() && x.loneHash(last) == x.hashWith(0, 0, 0, last);
                x.effects(1, last);
            }
        }
        long made = thread.getCurrentThreadAllocatedBytes() - before;
        boolean all = sound;
        Check.gives("sound", () -> all, true);
        Check.gives("under two million bytes", () -> made > 0L && made < 2000000L, true);
        Check.gives("and is used then", () -> x.done(0), 150);
    }
}
