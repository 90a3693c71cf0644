/** The edges of promises 13 to 15 and of what the document says of undo and exceptions, each beside its sentence. */
public final class EdgesUndoTest {
    private static final Check check = new Check("EdgesUndoTest");

    /** Each undoable call that is right for Tables.busy(), some of which change nothing there. */
    private static final Check.On[] UNDOABLE = {x -> x.like(0, 1, 0, -20), x -> x.like(1, 20, 0, -20),
        x -> x.cup(0, 40), x -> x.cup(0, 30), x -> x.sip(0), x -> x.sip(1), x -> x.brew(2, 145), x -> x.pour(2),
        x -> x.hand(0, 1), x -> x.hand(1, 0), x -> x.round(0), x -> x.round(1), EdgesUndoTest::runOfTwo,
        EdgesUndoTest::runOfNone, x -> x.goBack()};

    private static long runOfTwo(WhisperedPots x) {
        x.clearBuffer();
        Check.append(x, "n0;l2");
        return x.run();
    }

    private static long runOfNone(WhisperedPots x) {
        x.clearBuffer();
        Check.append(x, "p1;n0");
        return x.run();
    }

    private static WhisperedPots brewed(int times) {
        WhisperedPots x = new WhisperedPots();
        for (int i = 0; i < times; i++) {
            x.brew(0, 1);
        }
        return x;
    }

    private static void sixAtMost() {
        for (int times = 1; times <= 20; times++) {
            check.says("Undo", "At most 6 states are saved; the oldest one is dropped first.");
            WhisperedPots x = brewed(times);
            int saved = Math.min(times, 6);
            check.same("saved behind " + times, x.count(9), saved);
            for (int i = 1; i <= saved; i++) {
                check.says("Promise 15", "Restores the latest saved state, and drops it.");
                check.says("Promise 15", "Returns how many saved states are left.");
                check.same("the undo " + i + " behind " + times, x.undo(), saved - i);
                check.same("the fill behind it", x.pot(0, 1), times - i);
                check.same("saved behind it", x.count(9), saved - i);
            }
            check.says("Promise 15", "Throws `IllegalStateException` if there is none");
            check.refused(x, "one undo more", Check.STATE, () -> x.undo());
            check.refused(x, "and another one", Check.STATE, () -> x.undo());
            check.same("a call behind it", x.brew(0, 5), Math.max(0, times - 6) + 5);
            check.same("its undo", x.undo(), 0);
        }
        check.refusedWhole("undo of nothing", Check.STATE, WhisperedPots::new, x -> x.undo());
        check.refusedWhole("undo behind keep", Check.STATE, EdgesUndoTest::keptAlone, x -> x.undo());
    }

    private static WhisperedPots keptAlone() {
        WhisperedPots x = new WhisperedPots();
        x.keep();
        Check.append(x, "n0");
        return x;
    }

    /** The places of the saved states are used again, wherever the oldest one stands. */
    private static void undoAmongCalls() {
        check.says("Undo", "At most 6 states are saved; the oldest one is dropped first.");
        for (int first = 0; first <= 13; first++) {
            for (int undone = 0; undone <= Math.min(first, 6); undone++) {
                for (int then = 5; then <= 7; then++) {
                    WhisperedPots x = brewed(first);
                    for (int i = 0; i < undone; i++) {
                        x.undo();
                    }
                    for (int i = 0; i < then; i++) {
                        x.brew(0, 2);
                    }
                    int left = Math.min(6, Math.min(first, 6) - undone + then);
                    check.same("saved", x.count(9), left);
                    int fill = first - undone + 2 * then;
                    for (int i = 1; i <= left; i++) {
                        check.same("undo", x.undo(), left - i);
                        fill -= i <= then ? 2 : 1;
                        check.same("the fill", x.pot(0, 1), fill);
                    }
                    check.refused(x, "one undo more", Check.STATE, () -> x.undo());
                }
            }
        }
    }

    /** Makes a busy table, whose six saved states are all taken, calls it, and undoes that so often. */
    private static WhisperedPots busyUndone(Check.On call, int times) {
        WhisperedPots x = Tables.busy();
        call.answer(x);
        check.same("saved", x.count(9), 6);
        for (int i = 1; i <= times; i++) {
            check.same("undo", x.undo(), 6 - i);
        }
        return x;
    }

    private static void oldestDropped() {
        long[] states = new long[6];
        for (int i = 0; i < 6; i++) {
            states[i] = Values.stateOf(busyUndone(x -> 0, i));
        }
        for (int i = 0; i < UNDOABLE.length; i++) {
            check.says("Undo", "Each method that is marked \"undoable\" and does not throw an exception saves "
                    + "the state from before it (also if it changes nothing): all, also what is counted so far, "
                    + "but the buffer, the snapshot and the saved states.");
            for (int undone = 0; undone <= 5; undone++) {
                WhisperedPots x = busyUndone(UNDOABLE[i], undone + 1);
                check.same("the state " + undone + " ahead of the call " + i, Values.stateOf(x), states[undone]);
            }
            WhisperedPots y = busyUndone(UNDOABLE[i], 6);
            check.refused(y, "undo to the oldest one", Check.STATE, () -> y.undo());
        }
    }

    private static void whatUndoLeaves() {
        check.says("Undo", "Each method that is marked \"undoable\" and does not throw an exception saves the "
                + "state from before it (also if it changes nothing): all, also what is counted so far, but the "
                + "buffer, the snapshot and the saved states.");
        WhisperedPots x = new WhisperedPots();
        x.brew(0, 7);
        x.keep();
        Check.append(x, "n0;n");
        check.same("undo", x.undo(), 0);
        check.same("the buffer stays", x.firstError(), 4);
        check.same("the snapshot stays", x.goBack(), 7);
        check.same("undo of goBack", x.undo(), 0);
        check.same("the fill", x.pot(0, 1), 0);
        check.same("the counts", x.count(0), 0);
        check.same("the snapshot stays, still", x.goBack(), 7);
        check.same("the buffer stays, still", x.clearBuffer(), 4);
        check.same("the counts of the snapshot", x.count(0), 7);
    }

    private static void keeps() {
        check.says("Promise 13", "Returns the tea in all pots.");
        check.same("keep of nothing", new WhisperedPots().keep(), 0);
        WhisperedPots x = new WhisperedPots();
        for (int pot = 0; pot < 3; pot++) {
            x.brew(pot, 200);
        }
        check.same("keep of all that there can be", x.keep(), 600);
        x.pour(0);
        check.same("keep, tea in cups not told", x.keep(), 600 - x.guest(0, 8));
        check.says("Promise 13", "Takes a snapshot of the state (of all that undo() would restore), in place of "
                + "the one that was.");
        check.same("keep saves nothing", x.count(9), 4);
        x.undo();
        check.same("the later one", x.goBack(), 600 - x.guest(0, 8));
        long kept = Values.stateOf(Tables.busy());
        check.same("no call changes the snapshot", Values.stateOf(keptAndChanged(0)), kept);
        check.same("no undo changes the snapshot", Values.stateOf(keptAndChanged(6)), kept);
    }

    /** A busy table that was kept, changed by all calls and some undos, and is back again. */
    private static WhisperedPots keptAndChanged(int undos) {
        WhisperedPots x = Tables.busy();
        x.keep();
        for (Check.On call : UNDOABLE) {
            call.answer(x);
        }
        x.hand(0, 1);
        for (int i = 0; i < undos; i++) {
            x.undo();
        }
        x.goBack();
        return x;
    }

    private static void goesBack() {
        check.says("Promise 14", "Throws `IllegalStateException` if there is no snapshot");
        check.refusedWhole("goBack of a new one", Check.STATE, WhisperedPots::new, x -> x.goBack());
        check.refusedWhole("goBack without keep", Check.STATE, () -> Tables.at(30, 9, 99, 99, 9), x -> x.goBack());
        check.says("Promise 14", "Returns the tea in all pots then.");
        check.says("Promise 14", "Goes back to the snapshot, which stays.");
        WhisperedPots x = new WhisperedPots();
        x.keep();
        x.brew(0, 200);
        x.brew(1, 200);
        x.brew(2, 200);
        check.same("goBack to nothing", x.goBack(), 0);
        x.undo();
        x.keep();
        x.round(0);
        for (int i = 0; i < 3; i++) {
            check.same("goBack to all that there can be", x.goBack(), 600);
        }
        check.says("Promise 14", "Undoable.");
        check.undoable("goBack", y -> y.goBack());
        WhisperedPots there = keptAlone();
        check.same("goBack to where it is", there.goBack(), 0);
        check.same("it is saved, too", there.count(9), 1);
    }

    private static void notUndoable() {
        check.says("Undo", "Each method that is marked \"undoable\" and does not throw an exception saves the "
                + "state from before it (also if it changes nothing): all, also what is counted so far, but the "
                + "buffer, the snapshot and the saved states.");
        Check.On[] calls = {x -> x.append('n'), x -> x.clearBuffer(), x -> x.firstError(), x -> x.keep(),
            x -> x.guest(0, 0), x -> x.pot(0, 0), x -> x.told(0, 0), x -> x.tale(0, 0), x -> x.count(9),
            x -> x.ifPoured(0, 0), x -> x.emptyIn(0), x -> x.bestGuest(0), x -> (long) x.spiltShare(),
            x -> (long) x.meanTrust(), x -> x.digest()};
        for (int i = 0; i < calls.length; i++) {
            WhisperedPots x = Tables.inUse();
            calls[i].answer(x);
            check.same("saved states behind the call " + i, x.count(9), 3);
            check.same("undo behind the call " + i, x.undo(), 2);
            WhisperedPots y = Tables.inUse();
            y.undo();
            check.same("the state then", Values.stateOf(x), Values.stateOf(y));
        }
    }

    private static void refusedCallsSaveNothing() {
        check.says("Exceptions", "A call that throws an exception changes nothing.");
        Check.On[] wrong = {x -> x.like(8, 5, 5, 0), x -> x.cup(-1, 30), x -> x.sip(8), x -> x.brew(3, 1),
            x -> x.pour(3), x -> x.hand(3, 1), x -> x.round(3), x -> x.guest(8, 0), x -> x.pot(3, 0),
            x -> x.told(0, 8), x -> x.tale(-1, 0), x -> x.ifPoured(3, 0), x -> x.emptyIn(3), x -> x.bestGuest(3)};
        for (int i = 0; i < wrong.length; i++) {
            check.refusedWhole("call " + i, Check.INDEX, Tables::busy, wrong[i]);
        }
        check.refusedWhole("run", Check.ARGUMENT, Tables::busy, x -> x.run());
        check.refusedWhole("append", Check.ARGUMENT, Tables::busy, x -> x.append(32));
        check.refusedWhole("count", Check.ARGUMENT, Tables::busy, x -> x.count(10));
        check.refusedWhole("pour", Check.STATE, Tables::busy, x -> x.pour(0));
    }

    private static void last() {
        check.says("What it is", "An object is used for at most 512 calls after it has been made; what later "
                + "calls answer is free.");
        WhisperedPots x = new WhisperedPots();
        for (int i = 1; i <= 511; i++) {
            check.same("the hand " + i, x.hand(0, 1), i % 8);
        }
        check.same("the call 512", x.count(7), 511);
        WhisperedPots y = new WhisperedPots();
        for (int i = 1; i <= 510; i++) {
            y.hand(0, 0);
        }
        y.undo();
        check.same("the call 512", y.pot(0, 7), 509);
        WhisperedPots z = new WhisperedPots();
        for (int i = 0; i < 255; i++) {
            z.brew(0, 200);
            z.undo();
        }
        z.brew(0, 200);
        check.same("the call 512", z.count(0), 200);
    }

    public static void main(String[] args) {
        sixAtMost();
        undoAmongCalls();
        oldestDropped();
        whatUndoLeaves();
        keeps();
        goesBack();
        notUndoable();
        refusedCallsSaveNothing();
        last();
        check.end();
    }
}
