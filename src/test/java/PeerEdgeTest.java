/**
 * The sentences of 'Terms' on peers, ticks, confirmed steps, shown effects and the lone run that name a boundary
 * case: a test for each, with the sentence above it, on both sides of the boundary.
 */
public final class PeerEdgeTest {
    private static final int RIGHT = 2;
    private static final int LEFT = 1;
    private static final int DOWN = 8;

    public static void main(String[] args) {
        callsOfAnObject();
        numbersOfPlayers();
        beginning();
        foretelling();
        lastTick();
        knownInputsStay();
        delays();
        lostPackets();
        packetsOfEachTurn();
        packetsTellAllThatIsMissing();
        firstWrongStep();
        budget();
        notConfirmed();
        stepsInAll();
        ownInputs();
        confirmedSteps();
        shownOnce();
        cancelledAndShownAgain();
        cancelledAsSoonAsNoneIsOwed();
        onlyThoseDoneAgain();
        loneRun();
        Check.end("PeerEdgeTest");
    }

    private static void are(String what, Rollbacker x, int peer, int done, int owed, int confirmed, int stalls,
            int back) {
        Check.gives(what + ", done", () -> x.done(peer), done);
        Check.gives(what + ", owed", () -> x.owed(peer), owed);
        Check.gives(what + ", confirmed", () -> x.confirmed(peer), confirmed);
        Check.gives(what + ", stalls", () -> x.stalls(peer), stalls);
        Check.gives(what + ", taken back", () -> x.takenBack(peer), back);
    }

    // "An object is used for at most 512 calls after it has been made"
    private static void callsOfAnObject() {
        Rollbacker x = Games.runners(3);
        int calls = 4;
        for (int peer = 0; peer < 3; peer++) {
            for (int to = 1; to <= 2; to++) {
                x.setDelay(peer, (peer + to) % 3, 2 * to);
                calls++;
            }
        }
        int ticks = 0;
        for (; calls + 4 <= 510; calls += 4) {
            x.press(ticks % 3, 7 * ticks % 32);
            ticks++;
            int tick = ticks;
            Check.gives("tick " + ticks, () -> x.tick(1), tick);
            Check.gives("sound at " + ticks, x::isSound, true);
            int last = Math.max(0, ticks - 20);
            Check.holds("hashWith at " + ticks, x.hashWith(0, 2, 0, last) != 0);
        }
        Check.gives("calls", () -> 510, calls);
        Check.gives("the 511th call", () -> x.tick(20), ticks + 20);
        Check.gives("the 512th call", x::isSound, true);
    }

    // "A game has 1 to 3 players, and a peer for each, of the same number."
    private static void numbersOfPlayers() {
        for (int players = 0; players <= 4; players++) {
            Rollbacker x = new Rollbacker();
            int many = players;
            if (players < 1 || players > 3) {
                Check.fails(players + " players", () -> x.start(many), Games.ARGUMENT);
                Check.fails("not started", () -> x.done(0), Games.INDEX);
                continue;
            }
            Check.gives(players + " players", () -> x.start(many), Games.digest(1));
            for (int peer = -1; peer <= 3; peer++) {
                int number = peer;
                boolean is = peer >= 0 && peer < players;
                Object due = is ? 0 : "throws.IndexOutOfBoundsException";
                Check.gives(players + " players, peer " + peer, () -> x.done(number), due);
                Check.gives(players + " players, player " + peer, () -> x.press(number, 1), due);
                Check.gives(players + " players, of player " + peer, () -> x.known(0, number), due);
                Check.gives(players + " players, of peer " + peer, () -> x.known(number, 0), due);
            }
        }
    }

    // "All begin with the world as it was built. The steps are numbered from 0."
    private static void beginning() {
        Rollbacker x = Games.runners(3);
        for (int i = 0; i < 3; i++) {
            int peer = i;
            Check.gives("as built", () -> x.boxes(peer), 3);
            Check.gives("as built", () -> x.field(peer, 2, Games.X), 2500);
            are("no step", x, peer, 0, 0, 0, 0, 0);
            Check.fails("no step", () -> x.hash(peer, 0), Games.ELEMENT);
            Check.fails("no step", () -> x.effects(peer, 0), Games.ELEMENT);
        }
        x.tick(1);
        for (int i = 0; i < 3; i++) {
            int peer = i;
            Check.gives("the first step", () -> x.hash(peer, 0), x.loneHash(0));
            Check.gives("the first step", () -> x.effects(peer, 0), 0);
            Check.fails("not the second one", () -> x.hash(peer, 1), Games.ELEMENT);
            Check.fails("none ahead of it", () -> x.hash(peer, -1), Games.ELEMENT);
        }
    }

    // "For a step that it does not know, it foretells the last input of the player that it knows, or 0."
    private static void foretelling() {
        Rollbacker x = Games.runners(2);
        x.setDelay(1, 0, 3);
        x.press(1, DOWN);
        x.tick(1);
        x.press(1, 0);
        x.tick(2);
        Games.is("nothing is known: 0", x, 1, Games.VY, 0, Games.Y, 1000);
        x.tick(1);
        Check.gives("one is known", () -> x.known(0, 1), 1);
        // As if down went on: 4, 8 - 1, 11 - 1, 14 - 1.
        Games.is("the last one that is known", x, 1, Games.VY, 13, Games.Y, 1000 + 4 + 8 + 11 + 14);
        x.tick(1);
        Check.gives("two are known", () -> x.known(0, 1), 2);
        Games.is("which is 0", x, 1, Games.VY, 4, Games.Y, 1020);
    }

    // "The tick increases by 1."; promise 10: "or the tick would be greater than 400"
    private static void lastTick() {
        Rollbacker x = Games.runners(2);
        for (int tick = 1; tick <= 10; tick++) {
            Check.gives("tick " + tick, () -> x.tick(1), tick);
        }
        for (int tick = 30; tick <= 390; tick += 20) {
            Check.gives("twenty", () -> x.tick(20), tick);
        }
        Check.fails("401", () -> x.tick(11), Games.ARGUMENT);
        Check.gives("stalls in 390 ticks", () -> x.stalls(0), 240);
        Check.gives("400", () -> x.tick(10), 400);
        Check.fails("401", () -> x.tick(1), Games.ARGUMENT);
        Check.fails("420", () -> x.tick(20), Games.ARGUMENT);
        Check.gives("no tick was in it", () -> x.stalls(0), 250);
    }

    // "packets that arrive at this tick are taken, in the order in which they were sent: it gets to know the inputs in
    // them for the steps behind those that it knows"
    private static void knownInputsStay() {
        Rollbacker x = Games.runners(2);
        x.setDelay(1, 0, 4);
        x.press(1, DOWN);
        x.tick(3);
        x.setDelay(1, 0, 1);
        x.press(1, RIGHT);
        x.tick(1);
        Check.gives("none has come", () -> x.known(0, 1), 0);
        x.tick(1);
        // The packets of the ticks 1 and 4 arrive together: with 1 and with 4 inputs.
        Check.gives("two at once", () -> x.known(0, 1), 4);
        Check.gives("the inputs of both", () -> x.hash(0, 3), x.hash(1, 3));
        int back = x.takenBack(0);
        x.lose(1, 0, 50);
        x.tick(1);
        // The packet of the tick 2 with 2 inputs, and that of the tick 5 with 5.
        Check.gives("one of them is new", () -> x.known(0, 1), 5);
        x.tick(1);
        // That of the tick 3 alone, with 3 inputs.
        Check.gives("old ones", () -> x.known(0, 1), 5);
        Check.gives("nothing is taken back for them", () -> x.takenBack(0), back);
        Check.gives("none is under way", x::flying, 1);
    }

    // "A packet arrives as many ticks later as the delay of the link tells, 1 at first"
    private static void delays() {
        Rollbacker first = Games.runners(2);
        first.tick(1);
        Check.gives("in the next tick at the earliest", () -> first.known(0, 1) + first.known(1, 0), 0);
        first.tick(1);
        Check.gives("1 at first", () -> first.known(0, 1) * 10 + first.known(1, 0), 11);
        for (int delay = 0; delay <= 10; delay++) {
            Rollbacker x = Games.runners(2);
            int ticks = delay;
            if (delay < 1 || delay > 9) {
                Check.fails("delay " + delay, () -> x.setDelay(0, 1, ticks), Games.ARGUMENT);
                Check.gives("1 still", () -> x.setDelay(0, 1, 1), 1);
                continue;
            }
            Check.gives("delay " + delay, () -> x.setDelay(0, 1, ticks), 1);
            x.tick(delay);
            Check.gives(delay + " on the way there, 1 back", x::flying, delay + 1);
            Check.gives("a tick too early", () -> x.known(1, 0), 0);
            x.tick(1);
            Check.gives("in time", () -> x.known(1, 0), 1);
            x.tick(1);
            Check.gives("the next one", () -> x.known(1, 0), 2);
            Check.gives(delay + " on the way there, 1 back", x::flying, delay + 1);
        }
    }

    // "one that is lost does not, and is never under way"
    private static void lostPackets() {
        for (int many : new int[] {0, 1, 2, 49, 50}) {
            Rollbacker x = Games.runners(2);
            Check.gives("none ahead of it", () -> x.lose(0, 1, many), 0);
            Check.gives("in place of " + many, () -> x.lose(0, 1, many), many);
            Games.pass(x, many);
            Check.gives(many + " are lost", () -> x.known(1, 0), 0);
            Check.gives("those back are not", x::flying, many == 0 ? 0 : 1);
            Check.gives("all were sent", () -> x.lose(0, 1, 0), 0);
            x.tick(1);
            Check.gives("the next one is under way", x::flying, 2);
            x.tick(1);
            Check.gives("the next one has come", () -> x.known(1, 0) > 0, true);
        }
        Rollbacker under = Games.runners(2);
        under.setDelay(0, 1, 3);
        under.tick(1);
        under.lose(0, 1, 50);
        under.tick(3);
        Check.gives("what is under way already is not lost", () -> under.known(1, 0), 1);
    }

    // "Then it sends a packet to each other peer, by rising numbers"
    private static void packetsOfEachTurn() {
        int[] links = {0, 0, 2, 6};
        for (int players = 1; players <= 3; players++) {
            Rollbacker x = Games.runners(players);
            int due = links[players];
            Check.gives("no turn yet", x::flying, 0);
            x.tick(1);
            Check.gives("one on each link", x::flying, due);
            x.tick(20);
            Check.gives("one on each link", x::flying, due);
            for (int i = 0; i < 2 * due; i++) {
                int from = i % players;
                int to = (from + 1 + i / players % (players - 1)) % players;
                x.setDelay(from, to, 9);
            }
            x.tick(20);
            Check.gives("nine on each link", x::flying, 9 * due);
            Games.pass(x, 159);
            Check.gives("150 steps are done", () -> x.done(0), 150);
            Check.gives("packets are sent all the same", x::flying, 9 * due);
        }
    }

    // "with its own inputs from the first one on of which it does not know that the other one has it"
    private static void packetsTellAllThatIsMissing() {
        for (int many = 1; many <= 12; many++) {
            Rollbacker x = Games.runners(2);
            x.tick(3);
            x.lose(0, 1, many);
            x.press(0, DOWN);
            x.tick(1);
            x.press(0, RIGHT);
            Games.pass(x, many);
            // The packet of the tick 3 was the last one ahead of those.
            Check.gives(many + " are missing", () -> x.known(1, 0), 3);
            int made = x.known(0, 0);
            x.tick(1);
            Check.gives("all come with the next one", () -> x.known(1, 0), made);
            x.tick(5);
            int last = made - 1;
            Check.gives("and are the right ones", () -> x.hash(1, last), x.hash(0, last));
        }
    }

    // "If a step that it has done was done with another input than it knows then, it goes back ahead of the first such
    // step, and owes all steps that it has taken back by this."
    private static void firstWrongStep() {
        // Peer 1 makes 5 inputs, of which those from one on are not 0; peer 0 gets to know all of them at once.
        for (int wrong = 0; wrong <= 5; wrong++) {
            Rollbacker x = Games.runners(2);
            x.lose(1, 0, 4);
            for (int step = 0; step < 5; step++) {
                x.press(1, step >= wrong ? DOWN : 0);
                x.tick(1);
            }
            are("first wrong " + wrong, x, 0, 5, 0, 0, 0, 0);
            x.tick(1);
            are("first wrong " + wrong, x, 0, 6, 0, 5, 0, 5 - wrong);
            Check.gives("all steps", x::steps, 12L + 5 - wrong);
        }
        // Owing steps already, it goes back further: of 10 steps it owes 2, and then takes 6 of the other 8 back.
        Rollbacker x = Games.runners(3);
        x.lose(1, 0, 9);
        x.lose(2, 0, 10);
        x.press(1, DOWN);
        x.tick(2);
        x.press(2, DOWN);
        x.tick(8);
        are("ten", x, 0, 10, 0, 0, 0, 0);
        x.tick(1);
        are("player 1 is heard", x, 0, 8, 2, 0, 1, 10);
        x.tick(1);
        are("and player 2", x, 0, 10, 0, 10, 2, 16);
    }

    // "Its budget is 8 steps. It does the steps that it owes, as long as the budget lasts. If it then owes none, and
    // budget is left, it does one more step [..] Otherwise, it stalls."
    private static void budget() {
        for (int owing = 0; owing <= 10; owing++) {
            Rollbacker x = Games.runners(2);
            x.press(1, owing == 0 ? 0 : RIGHT);
            x.lose(1, 0, Math.max(0, owing - 1));
            x.tick(Math.max(1, owing));
            int ahead = x.done(0);
            x.tick(1);
            int done = owing < 8 ? ahead + 1 : 8;
            boolean stalls = owing >= 8;
            are("owing " + owing, x, 0, done, Math.max(0, owing - 8), Math.min(ahead, done), stalls ? 1 : 0, owing);
            x.tick(1);
            // Of 8 that were owed none is left: one more. Of 9 and 10, one and two, and one more.
            int then = owing < 8 ? ahead + 2 : owing + 1;
            are("a tick behind owing " + owing, x, 0, then, 0, Math.min(then, ahead + 1), stalls ? 1 : 0, owing);
        }
    }

    // "unless it has done 10 steps or more that are not confirmed"
    private static void notConfirmed() {
        for (int ticks = 8; ticks <= 12; ticks++) {
            Rollbacker x = Games.runners(2);
            x.lose(1, 0, 50);
            x.tick(ticks);
            are(ticks + " ticks", x, 0, Math.min(10, ticks), 0, 0, Math.max(0, ticks - 10), 0);
        }
        // Those that are confirmed do not count: 10 more steps behind them.
        Rollbacker x = Games.runners(2);
        Games.pass(x, 30);
        x.lose(1, 0, 50);
        x.tick(1);
        are("one is not confirmed", x, 0, 31, 0, 30, 0, 0);
        x.tick(9);
        are("ten are not", x, 0, 40, 0, 30, 0, 0);
        x.tick(1);
        are("ten are not", x, 0, 40, 0, 30, 1, 0);
        // One that gets confirmed in the turn makes room for one more in this turn.
        Rollbacker y = Games.runners(2);
        y.setDelay(1, 0, 9);
        y.tick(10);
        are("nine were not, one more", y, 0, 10, 0, 1, 0, 0);
        Rollbacker z = Games.runners(3);
        z.lose(1, 0, 10);
        z.lose(2, 0, 9);
        z.tick(10);
        are("ten are not", z, 0, 10, 0, 0, 0, 0);
        z.tick(1);
        are("known of one player alone", z, 0, 10, 0, 0, 1, 0);
        z.tick(1);
        are("known of both", z, 0, 11, 0, 11, 1, 0);
    }

    // "or 150 in all"
    private static void stepsInAll() {
        for (int players = 1; players <= 3; players++) {
            Rollbacker x = Games.runners(players);
            Games.pass(x, 149);
            are("149 ticks", x, 0, 149, 0, players == 1 ? 149 : 148, 0, 0);
            x.tick(1);
            are("150 ticks", x, 0, 150, 0, players == 1 ? 150 : 149, 0, 0);
            x.tick(1);
            are("151 ticks", x, 0, 150, 0, 150, 1, 0);
            Check.gives("no input is made", () -> x.known(0, 0), 150);
            Check.fails("no such step", () -> x.hash(0, 150), Games.ELEMENT);
            Check.fails("no such step", () -> x.loneHash(150), Games.ELEMENT);
            Check.gives("the last step", () -> x.hash(0, 149), x.loneHash(149));
            Check.gives("all steps", x::steps, 150L * players);
        }
    }

    // "its own input for this is what is pressed"
    private static void ownInputs() {
        Rollbacker x = Games.runners(2);
        x.lose(1, 0, 10);
        x.tick(10);
        x.press(0, DOWN);
        x.tick(1);
        are("it stalls", x, 0, 10, 0, 0, 1, 0);
        x.press(0, RIGHT);
        x.tick(1);
        are("it goes on", x, 0, 11, 0, 11, 1, 0);
        Games.is("with what is pressed now", x, 0, Games.VX, 4, Games.VY, 0);
        // Steps that are done again keep the inputs that were made for them.
        Rollbacker y = Games.runners(2);
        y.lose(1, 0, 2);
        y.press(0, DOWN);
        y.press(1, DOWN);
        y.tick(3);
        y.press(0, RIGHT);
        y.tick(1);
        are("three are done again", y, 0, 4, 0, 3, 0, 3);
        Games.is("down three times, right once", y, 0, Games.VX, 4, Games.VY, 9, Games.Y, 1000 + 4 + 8 + 11 + 10);
    }

    // "A step of a peer is confirmed if it has done it, and it and all steps ahead of it were done with inputs that it
    // knows, of all players."
    private static void confirmedSteps() {
        Rollbacker alone = Games.runners(1);
        Check.gives("none", () -> alone.confirmed(0), 0);
        alone.tick(1);
        Check.gives("at once, if there is no other one", () -> alone.confirmed(0), 1);
        // Peer 1 is ahead, so that peer 0 knows inputs of steps that it has not done.
        Rollbacker x = Games.runners(2);
        x.lose(0, 1, 1);
        x.lose(1, 0, 9);
        x.press(1, RIGHT);
        x.tick(10);
        x.tick(1);
        Check.gives("ten are known", () -> x.known(0, 1), 10);
        are("eight are done", x, 0, 8, 2, 8, 1, 10);
        x.tick(1);
        are("eleven are known", x, 0, 11, 0, 11, 1, 10);
        // The least of all players.
        Rollbacker y = Games.runners(3);
        y.setDelay(1, 0, 2);
        y.setDelay(2, 0, 4);
        y.tick(7);
        Check.gives("of player 1", () -> y.known(0, 1), 5);
        Check.gives("of player 2", () -> y.known(0, 2), 3);
        Check.gives("of both", () -> y.confirmed(0), 3);
        Check.gives("at peer 1", () -> y.confirmed(1), 6);
    }

    /** A ball that comes to the runner of player 1, and meets it in the step 2, if the runner is there then. */
    private static Rollbacker meeting(int ball) {
        Rollbacker x = new Rollbacker();
        Games.pushed(x, Games.BALL, ball, 1000, 10, 0);
        x.addBox(Games.RUNNER, 1019, 1000, 10, 9, 1, -1);
        x.start(2);
        return x;
    }

    // "When a step is done, each of its effects is shown, if it is not shown for this step already"; "Two effects of a
    // step with the same kind and places are one."
    private static void shownOnce() {
        Rollbacker x = meeting(970);
        x.tick(2);
        Check.gives("not yet", () -> x.shown(0), 0);
        x.setDelay(1, 0, 2);
        x.press(1, DOWN);
        x.tick(1);
        Check.gives("foretold", () -> x.shown(0) * 10 + x.effects(0, 2), 11);
        Check.gives("it is kind 4, of 0 and 1", () -> x.effectAt(0, 2, 0), 4001);
        x.tick(2);
        Check.gives("the step 2 is done again", () -> x.takenBack(0), 2);
        Check.gives("one still", () -> x.shown(0) * 10 + x.effects(0, 2), 11);
        Check.gives("none is cancelled", () -> x.cancelled(0), 0);
        Check.gives("as at peer 1", () -> x.effectAt(1, 2, 0), 4001);
    }

    // "effects that are shown for one of the steps that were done again since, and did not come again, are cancelled"
    private static void cancelledAndShownAgain() {
        Rollbacker x = meeting(970);
        x.setDelay(1, 0, 3);
        x.press(1, RIGHT);
        x.tick(1);
        x.press(1, LEFT);
        x.tick(2);
        Check.gives("foretold", () -> x.shown(0) * 100 + x.cancelled(0) * 10 + x.effects(0, 2), 101);
        x.tick(1);
        // Right is heard of, and foretold for the step 2, too: the runner is gone by then.
        Check.gives("cancelled", () -> x.shown(0) * 100 + x.cancelled(0) * 10 + x.effects(0, 2), 110);
        Check.fails("there is none", () -> x.effectAt(0, 2, 0), Games.ELEMENT);
        x.tick(1);
        // Left is heard of: right once and left twice, it is where it was.
        Check.gives("shown again", () -> x.shown(0) * 100 + x.cancelled(0) * 10 + x.effects(0, 2), 211);
        x.tick(5);
        Check.gives("for good", () -> x.cancelled(0) * 10 + x.effects(0, 2), 11);
        Check.gives("at peer 1 none was cancelled", () -> x.cancelled(1) * 10 + x.effects(1, 2), 1);
        Check.gives("shown once more than there", () -> x.shown(0), x.shown(1) + 1);
    }

    // "as soon as none is owed any more, in whichever tick"
    private static void cancelledAsSoonAsNoneIsOwed() {
        for (int owing = 1; owing <= 10; owing++) {
            Rollbacker x = new Rollbacker();
            Games.box(x, Games.BALL, 1000, 1000, -1);
            x.addBox(Games.RUNNER, 1018, 1000, 10, 9, 1, -1);
            x.start(2);
            x.lose(1, 0, owing - 1);
            x.press(1, RIGHT);
            x.tick(owing);
            Check.gives("they meet in the step 0", () -> x.shown(0) * 10 + x.effects(0, 0), 11);
            x.tick(1);
            int owed = Math.max(0, owing - 8);
            Check.gives("owing " + owing, () -> x.owed(0), owed);
            Check.gives("cancelled, owing " + owing, () -> x.cancelled(0), owed == 0 ? 1 : 0);
            Check.gives("is there, owing " + owing, () -> x.effects(0, 0), owed == 0 ? 0 : 1);
            x.tick(1);
            Check.gives("cancelled, owing " + owing, () -> x.cancelled(0) * 10 + x.effects(0, 0), 10);
            Check.gives("it was shown", () -> x.shown(0), 1);
        }
    }

    // "for one of the steps that were done again since": those of other steps stay
    private static void onlyThoseDoneAgain() {
        for (int wrong = 1; wrong <= 4; wrong++) {
            Rollbacker x = meeting(970);
            x.lose(1, 0, 3);
            for (int step = 0; step < 4; step++) {
                x.press(1, step >= wrong ? RIGHT : 0);
                x.tick(1);
            }
            Check.gives("foretold", () -> x.shown(0) * 10 + x.effects(0, 2), 11);
            x.tick(1);
            // Going right from the step 2 on, it is too late for the ball.
            int gone = wrong <= 2 ? 1 : 0;
            Check.gives("first wrong " + wrong, () -> x.cancelled(0), gone);
            Check.gives("first wrong " + wrong, () -> x.effects(0, 2), 1 - gone);
            Check.gives("as at peer 1", () -> x.effects(1, 2), 1 - gone);
        }
    }

    // "The lone run does steps with the inputs that the players made for them at their own peers, from the world as it
    // was built"
    private static void loneRun() {
        for (int players = 1; players <= 3; players++) {
            Rollbacker x = Games.runners(players);
            for (int i = 0; i < 15; i++) {
                x.press(i % players, 7 * i % 32);
                x.tick(10);
            }
            x.tick(5);
            for (int i = 0; i < 150; i++) {
                int step = i;
                int peer = i % players;
                Check.gives("step " + i, () -> x.hash(peer, step), x.loneHash(step));
            }
        }
        // It knows of no cheating, and of no delay.
        Rollbacker x = Games.runners(2);
        x.setDelay(0, 1, 9);
        x.setDelay(1, 0, 9);
        x.press(0, RIGHT);
        x.tick(1);
        int due = x.loneHash(0);
        x.cheat(0, 0, Games.HITS, 1);
        x.cheat(1, 0, Games.HITS, 2);
        Check.gives("cheated", () -> x.loneHash(0), due);
        Check.gives("not as at a peer", () -> x.hash(0, 0) == due || x.hash(1, 0) == due, false);
    }
}
