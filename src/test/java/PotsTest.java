/** Promises 5 to 8: brew, pour, hand, round. */
public final class PotsTest {
    private static final int[] NO_POTS = {-1, 3, Integer.MIN_VALUE, Integer.MAX_VALUE};

    private static final Check check = new Check("PotsTest");

    private static void brew() {
        WhisperedPots x = new WhisperedPots();
        check.same("brew the least", x.brew(2, 1), 1);
        check.same("brew up to the brim", x.brew(2, 199), 200);
        check.same("fill", x.pot(2, 1), 200);
        check.same("the whisper stays", x.pot(2, 2), 0);
        check.same("brewed", x.pot(2, 6), 200);
        check.same("brewed in all", x.count(0), 200);
        check.same("the pot beside it", x.pot(1, 1), 0);
        check.same("brew all at once", x.brew(1, 200), 200);
        check.same("brewed in all", x.count(0), 400);
        check.refused(x, "brew above the brim", Check.STATE, () -> x.brew(2, 1));
        check.refused(x, "brew far above the brim", Check.STATE, () -> x.brew(2, 200));
        for (int tea : new int[] {0, 201, -1, Integer.MIN_VALUE, Integer.MAX_VALUE}) {
            check.refused(x, "brew of " + tea, Check.ARGUMENT, () -> x.brew(2, tea));
            check.refused(x, "brew of " + tea + " in no pot", Check.INDEX, () -> x.brew(3, tea));
        }
        for (int pot : NO_POTS) {
            check.refused(x, "brew in " + pot, Check.INDEX, () -> x.brew(pot, 1));
        }
        check.same("undo", x.undo(), 2);
        check.same("fill then", x.pot(1, 1), 0);
        check.same("brewed then", x.count(0), 200);
    }

    private static void weight() {
        int[][] weights = {{1, 0}, {19, 0}, {20, 20}, {39, 20}, {40, 40}, {199, 180}, {200, 200}};
        for (int[] w : weights) {
            WhisperedPots x = new WhisperedPots();
            x.brew(0, w[0]);
            check.same("weight of " + w[0], x.pot(0, 3), w[1]);
        }
    }

    private static void pourTooMuch() {
        WhisperedPots x = new WhisperedPots();
        x.brew(0, 100);
        // The guess is half of 0 and half of 100, so 30 * 100 / 50 come.
        check.same("pour", x.pour(0), 30);
        check.same("fill", x.pot(0, 1), 40);
        check.same("tea", x.guest(0, 1), 30);
        check.same("shame", x.guest(0, 5), 1);
        check.same("trust: the whisper was the worse one", x.guest(0, 3), 4);
        check.same("spilt", x.guest(0, 7), 30);
        check.same("came", x.guest(0, 8), 60);
        check.same("pours", x.count(5), 1);
        check.same("spills", x.count(6), 1);
        check.same("spilt by all", x.count(2), 30);
        check.same("the whisper stays", x.pot(0, 2), 0);
        check.same("why not", x.pot(0, 5), 2);
        check.refused(x, "pour without room", Check.STATE, () -> x.pour(0));
        check.refused(x, "pour from an empty pot", Check.STATE, () -> x.pour(1));
        for (int pot : NO_POTS) {
            check.refused(x, "pour from " + pot, Check.INDEX, () -> x.pour(pot));
        }
        check.same("undo", x.undo(), 1);
        check.same("fill again", x.pot(0, 1), 100);
        check.same("shame again", x.guest(0, 5), 0);
        check.same("pours again", x.count(5), 0);
    }

    private static void pourNothingSpilt() {
        WhisperedPots x = new WhisperedPots();
        x.like(0, 5, 0, 0);
        x.brew(0, 50);
        // By weight alone: 30 * 50 / 40 = 37, of which 7 are too much.
        check.same("by weight", x.pour(0), 7);
        check.same("trust stays at 0", x.guest(0, 3), 0);
        x.undo();
        x.brew(0, 10);
        // 30 * 60 / 60 is just the room.
        check.same("by the right weight", x.pour(0), 0);
        check.same("no shame", x.guest(0, 5), 0);
        check.same("no spill", x.count(6), 0);
        check.same("one pour", x.count(5), 1);
        check.same("came", x.guest(0, 8), 30);
    }

    private static void guessOfNothing() {
        WhisperedPots x = new WhisperedPots();
        x.brew(0, 19);
        check.same("the guess", x.pot(0, 4), 0);
        check.same("what would come", x.ifPoured(0, 0), 19);
        check.same("all comes", x.pour(0), 0);
        check.same("the pot is empty", x.pot(0, 5), 1);
        check.same("tea", x.guest(0, 1), 19);
        check.same("whisper and weight were as wrong", x.guest(0, 3), 5);
        // With room for 1 alone, a guess of 0 still counts as 1: 1 * 9 / 1.
        x.cup(0, 20);
        x.brew(0, 9);
        check.same("eight are spilt", x.pour(0), 8);
        check.same("the pot is empty", x.pot(0, 1), 0);
    }

    private static void oneSpilt() {
        WhisperedPots x = new WhisperedPots();
        // By weight alone: 30 * 62 / 60 = 31.
        x.like(0, 5, 0, 0);
        x.brew(0, 62);
        check.same("one is spilt", x.pour(0), 1);
        check.same("shame for one", x.guest(0, 5), 1);
        check.same("a spill of one", x.count(6), 1);
    }

    private static void lastTrust() {
        WhisperedPots x = new WhisperedPots();
        x.like(0, 5, 1, 0);
        x.brew(0, 100);
        check.same("told ahead", x.ifPoured(0, 2), 0);
        x.pour(0);
        check.same("no trust left", x.guest(0, 3), 0);
        x.sip(0);
        x.pour(0);
        check.same("not below 0", x.guest(0, 3), 0);
    }

    /** The pots and guests do not stand in one another's way. */
    private static void otherPots() {
        WhisperedPots x = new WhisperedPots();
        x.like(4, 7, 9, 6);
        x.like(5, 3, 2, 0);
        x.brew(2, 150);
        // (0 * 9 + 140 * 1) / 10 is told with 6 more, then 20 * 2 and 140 * 8 are guessed.
        check.same("hand", x.hand(2, 1), 5);
        check.same("whisper", x.pot(2, 2), 20);
        check.same("guess", x.pot(2, 4), 116);
        check.same("would come", x.ifPoured(2, 0), 38);
        check.same("would be spilt", x.ifPoured(2, 1), 8);
        check.same("trust then", x.ifPoured(2, 2), 1);
        check.same("pour", x.pour(2), 8);
        check.same("fill", x.pot(2, 1), 112);
        check.same("sip", x.sip(5), 3);
        check.same("tea", x.guest(5, 1), 27);
        check.same("drunk", x.guest(5, 6), 3);
        // The guest 5 has 27 of 30 and lets it pass; the fills then: 112, 77, 42, 17, 0.
        check.same("round", x.round(2), 4);
        check.same("told by the guest 5", x.told(2, 5), 92);
        check.same("told by the guest 6", x.told(2, 6), 72);
        check.same("told by the guest 7", x.told(2, 7), 59);
        check.same("told by the guest 0", x.told(2, 0), 23);
        check.same("with the guest 5 again", x.pot(2, 0), 5);
        check.same("the pot 0 stays", x.pot(0, 7), 0);
        check.same("the pot 1 stays", x.pot(1, 7), 0);
        check.same("the pot 1 knows no whisper", x.pot(1, 2), 0);
        x.brew(1, 45);
        check.same("guess of the pot 1", x.pot(1, 4), (45 / 20 * 20) * (10 - x.guest(2, 3)) / 10);
    }

    private static void nothingComes() {
        WhisperedPots x = new WhisperedPots();
        // The guest 0 tells 200 + 20 of a full pot, which is 200; the guest 1 believes it.
        x.like(0, 5, 0, 20);
        x.like(1, 5, 10, 0);
        x.brew(0, 200);
        x.hand(0, 1);
        check.same("the whisper is at most 200", x.pot(0, 2), 200);
        x.pour(0);
        x.hand(0, 0);
        x.like(0, 5, 0, 20);
        x.pour(0);
        x.cup(0, 31);
        x.hand(0, 1);
        check.same("fill", x.pot(0, 1), 139);
        check.same("whisper", x.pot(0, 2), 140);
        // The room is 1 and the guess is over the fill: nothing comes, but it is a pour.
        x.hand(0, 0);
        x.like(0, 5, 10, 20);
        check.same("guess", x.pot(0, 4), 140);
        check.same("nothing would come", x.ifPoured(0, 0), 0);
        int pours = x.count(5);
        check.same("pour", x.pour(0), 0);
        check.same("a pour all the same", x.count(5), pours + 1);
        check.same("fill", x.pot(0, 1), 139);
        check.same("trust stays at 10", x.guest(0, 3), 10);
        check.same("why not: there still is room", x.pot(0, 5), 0);
    }

    private static void trustGrows() {
        WhisperedPots x = new WhisperedPots();
        // 39 weigh 20: the guest 0 tells 20 + 20 of them, which is nearer to 39.
        x.like(0, 5, 0, 20);
        x.brew(0, 39);
        x.hand(0, 1);
        check.same("whisper", x.pot(0, 2), 40);
        check.same("trust then, told ahead", x.ifPoured(0, 2), 6);
        check.same("pour", x.pour(0), 9);
        check.same("trust", x.guest(1, 3), 6);
        x.undo();
        x.like(1, 5, 10, 0);
        check.same("trust at most, told ahead", x.ifPoured(0, 2), 10);
        x.pour(0);
        check.same("trust at most", x.guest(1, 3), 10);
    }

    private static void trustAlike() {
        WhisperedPots x = new WhisperedPots();
        // 30 weigh 20; a whisper of 40 is as far off as that.
        x.like(0, 5, 0, 20);
        x.brew(0, 30);
        x.hand(0, 1);
        check.same("whisper", x.pot(0, 2), 40);
        x.pour(0);
        check.same("trust", x.guest(1, 3), 5);
    }

    private static void emptyAheadOfRoom() {
        WhisperedPots x = new WhisperedPots();
        x.cup(0, 19);
        x.brew(0, 19);
        x.pour(0);
        check.same("both reasons", x.pot(0, 5), 1);
        x.brew(0, 1);
        check.same("no room", x.pot(0, 5), 2);
    }

    private static void hand() {
        WhisperedPots x = new WhisperedPots();
        check.same("hand back", x.hand(0, 0), 7);
        check.same("hand on over the end", x.hand(0, 1), 0);
        check.same("handed", x.pot(0, 7), 2);
        check.same("handed in all", x.count(7), 2);
        x.like(0, 5, 5, -20);
        x.brew(0, 20);
        check.same("hand", x.hand(0, 1), 1);
        check.same("the whisper is at least 0", x.pot(0, 2), 0);
        check.same("told", x.told(0, 0), 0);
        x.like(1, 5, 4, 3);
        // 0 * 4 / 10 + 20 * 6 / 10 = 12, and the leaning.
        check.same("hand", x.hand(0, 1), 2);
        check.same("whisper", x.pot(0, 2), 15);
        check.same("two pots with the guest 2", x.guest(2, 9), 3);
        // 15 * 5 and 20 * 5 together are 175; only their sum is rounded.
        check.same("guess", x.pot(0, 4), 17);
        check.same("no pour", x.count(5), 0);
        check.same("the tea stays", x.pot(0, 1), 20);
        for (int next : new int[] {-1, 2, Integer.MIN_VALUE, Integer.MAX_VALUE}) {
            check.refused(x, "hand to " + next, Check.ARGUMENT, () -> x.hand(0, next));
            check.refused(x, "hand of no pot to " + next, Check.INDEX, () -> x.hand(-1, next));
        }
        for (int pot : NO_POTS) {
            check.refused(x, "hand of " + pot, Check.INDEX, () -> x.hand(pot, 1));
        }
        check.same("undo", x.undo(), 5);
        check.same("the guest with it then", x.pot(0, 0), 1);
        check.same("the whisper then", x.pot(0, 2), 0);
        check.same("told then", x.told(0, 1), -1);
    }

    private static void round() {
        WhisperedPots x = new WhisperedPots();
        check.same("a round of an empty pot", x.round(1), 0);
        check.same("it is handed on all the same", x.pot(1, 7), 8);
        check.same("back where it was", x.pot(1, 0), 2);
        check.same("saved as one call", x.count(9), 1);
        check.same("all told", x.count(8), 8);
        check.same("the first tale", x.tale(0, 0), 10);
        check.same("the last tale", x.tale(7, 0), 9);
        x.brew(0, 200);
        // The fills: 200, 140, 103, 71, 39, 6, 0; what comes: 60, 37, 32, 32, 33, 6.
        check.same("a round", x.round(0), 6);
        check.same("empty", x.pot(0, 1), 0);
        check.same("pours", x.count(5), 6);
        check.same("spills", x.count(6), 5);
        check.same("spilt", x.count(2), 30 + 7 + 2 + 2 + 3);
        int[] whispers = {84, 93, 73, 51, 30};
        int[] trusts = {4, 4, 4, 6, 6, 4, 5, 5};
        for (int guest = 0; guest < whispers.length; guest++) {
            check.same("told by " + guest, x.told(0, guest), whispers[guest]);
        }
        for (int guest = 0; guest < trusts.length; guest++) {
            check.same("trust of " + guest, x.guest(guest, 3), trusts[guest]);
        }
        check.same("undo", x.undo(), 2);
        check.same("fill again", x.pot(0, 1), 200);
        check.same("pours again", x.count(5), 0);
        for (int pot : NO_POTS) {
            check.refused(x, "round of " + pot, Check.INDEX, () -> x.round(pot));
        }
    }

    private static void halfFullCups() {
        WhisperedPots x = new WhisperedPots();
        // The guest 0 gets 15 of 30: just half, so it does not pour in a round.
        x.brew(0, 15);
        check.same("pour", x.pour(0), 0);
        x.brew(0, 1);
        check.same("half is too much", x.round(0), 1);
        check.same("the next one poured", x.guest(1, 1), 1);
        x.undo();
        x.undo();
        // A cup for 31 with 15 in it is less than half full.
        x.cup(0, 31);
        x.brew(0, 1);
        check.same("less than half", x.round(0), 1);
        check.same("the first one poured", x.guest(0, 1), 16);
    }

    public static void main(String[] args) {
        brew();
        weight();
        pourTooMuch();
        pourNothingSpilt();
        guessOfNothing();
        oneSpilt();
        lastTrust();
        nothingComes();
        otherPots();
        trustGrows();
        trustAlike();
        emptyAheadOfRoom();
        hand();
        round();
        halfFullCups();
        check.end();
    }
}
