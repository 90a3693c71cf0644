/** Promises 13 to 15: keep, goBack, undo. */
public final class UndoTest {
    private static final Check check = new Check("UndoTest");

    private static void keepAndGoBack() {
        WhisperedPots x = new WhisperedPots();
        check.same("keep of nothing", x.keep(), 0);
        check.same("keep is not saved", x.count(9), 0);
        x.brew(0, 100);
        x.brew(1, 30);
        x.pour(1);
        x.brew(2, 7);
        // The pot 1 weighs 20, half of which is its guess: all of it comes.
        check.same("keep, the tea in cups not told", x.keep(), 107);
        x.hand(0, 1);
        x.sip(2);
        x.like(3, 9, 9, 9);
        x.cup(3, 12);
        x.round(0);
        check.same("goBack", x.goBack(), 107);
        check.same("with the guest 0", x.pot(0, 0), 0);
        check.same("nothing told", x.told(0, 0), -1);
        check.same("no tales", x.count(8), 0);
        check.same("drunk", x.count(1), 0);
        check.same("thirst", x.guest(3, 2), 5);
        check.same("cup", x.guest(3, 0), 30);
        check.same("the saved states are no part of it", x.count(9), 6);
        check.same("undo of goBack", x.undo(), 5);
        check.same("drunk", x.count(1), 5);
        check.same("told", x.count(8), 8);
        check.same("goBack again", x.goBack(), 107);
        check.same("goBack twice: it stays", x.goBack(), 107);
        check.same("undo", x.undo(), 5);
        check.same("undo", x.undo(), 4);
        check.same("drunk", x.count(1), 5);
        x.keep();
        check.same("goBack to the newer one", x.goBack(), x.pot(0, 1) + x.pot(1, 1) + x.pot(2, 1));
        check.same("drunk at the newer one", x.count(1), 5);
    }

    private static void snapshotIsNoState() {
        WhisperedPots x = new WhisperedPots();
        x.brew(0, 10);
        check.refused(x, "goBack without a snapshot", Check.STATE, () -> x.goBack());
        x.keep();
        check.same("undo", x.undo(), 0);
        check.same("undo leaves the snapshot", x.goBack(), 10);
        check.same("goBack is undoable", x.count(9), 1);
        check.same("fill", x.pot(0, 1), 10);
    }

    private static void undoSix() {
        WhisperedPots x = new WhisperedPots();
        for (int i = 1; i <= 8; i++) {
            x.brew(0, 1);
            check.same("saved behind " + i, x.count(9), Math.min(i, 6));
        }
        for (int left = 5; left >= 0; left--) {
            check.same("undo", x.undo(), left);
            check.same("fill", x.pot(0, 1), 2 + left);
        }
        check.refused(x, "a seventh undo", Check.STATE, () -> x.undo());
        for (int i = 0; i < 4; i++) {
            x.brew(0, 10);
        }
        x.undo();
        x.undo();
        for (int i = 0; i < 5; i++) {
            x.brew(0, 20);
        }
        check.same("saved", x.count(9), 6);
        int[] fills = {102, 82, 62, 42, 22, 12};
        for (int i = 0; i < fills.length; i++) {
            check.same("undo", x.undo(), 5 - i);
            check.same("fill", x.pot(0, 1), fills[i]);
        }
        check.refused(x, "the oldest one was dropped", Check.STATE, () -> x.undo());
    }

    /** Each undoable call is one saved state, and its undo brings the digest back. */
    private static void eachCall() {
        WhisperedPots x = new WhisperedPots();
        x.brew(0, 90);
        x.keep();
        Check.Call[] calls = {() -> x.like(0, 6, 7, 8), () -> x.cup(0, 20), () -> x.sip(0), () -> x.brew(0, 5),
            () -> x.pour(0), () -> x.hand(0, 0), () -> x.round(0), () -> x.goBack()};
        for (int i = 0; i < calls.length; i++) {
            long before = x.digest();
            calls[i].answer();
            check.same("saved by the call " + i, x.count(9), 2);
            check.same("undo of the call " + i, x.undo(), 1);
            check.same("digest behind the undo of the call " + i, x.digest(), before);
        }
        Check.append(x, "n0;b05");
        x.run();
        check.same("saved by run", x.count(9), 2);
        x.undo();
        check.same("handed behind the undo of run", x.count(7), 0);

        Check.Call[] looks = {() -> x.guest(0, 1), () -> x.pot(0, 4), () -> x.told(0, 0), () -> x.tale(0, 0),
            () -> x.count(3), () -> x.ifPoured(0, 1), () -> x.emptyIn(0), () -> x.bestGuest(0),
            () -> (long) x.spiltShare(), () -> (long) x.meanTrust(), () -> x.digest(), () -> x.firstError()};
        for (int i = 0; i < looks.length; i++) {
            long before = x.digest();
            looks[i].answer();
            check.same("digest behind the look " + i, x.digest(), before);
        }
        check.same("looks are not saved", x.count(9), 1);
    }

    public static void main(String[] args) {
        keepAndGoBack();
        snapshotIsNoState();
        undoSix();
        eachCall();
        check.end();
    }
}
