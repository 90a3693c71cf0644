/** Promises 16 to 20: guest, pot, told, tale, count. */
public final class LooksTest {
    private static final int LOWEST = Integer.MIN_VALUE;
    private static final int HIGHEST = Integer.MAX_VALUE;

    private static final Check check = new Check("LooksTest");

    private static void numbers() {
        WhisperedPots x = new WhisperedPots();
        x.like(0, 6, 7, -3);
        x.cup(0, 25);
        x.brew(0, 100);
        // The guess is (0 * 7 + 100 * 3) / 10 = 30, and 25 * 100 / 30 = 83.
        check.same("pour", x.pour(0), 58);
        x.sip(0);
        x.hand(1, 0);
        x.hand(1, 0);
        int[] guestDue = {25, 19, 6, 6, -3, 1, 6, 58, 83, 3};
        for (int what = 0; what < guestDue.length; what++) {
            check.same("guest(0, " + what + ")", x.guest(0, what), guestDue[what]);
        }
        x.like(0, 6, 6, 20);
        x.hand(0, 1);
        // The guest 0 tells (0 * 6 + 0 * 4) / 10 + 20; the guest 1 trusts it half.
        int[] potDue = {1, 17, 20, 0, 10, 0, 100, 1};
        for (int what = 0; what < potDue.length; what++) {
            check.same("pot(0, " + what + ")", x.pot(0, what), potDue[what]);
        }
        int[] countDue = {100, 6, 58, 36, 36, 1, 1, 3, 3, 6};
        for (int what = 0; what < countDue.length; what++) {
            check.same("count(" + what + ")", x.count(what), countDue[what]);
        }
        check.same("no pot with the guest 2", x.guest(2, 9), 0);
        check.same("the pot 2 with the guest 4", x.guest(4, 9), 4);
    }

    private static void allPotsWithOne() {
        WhisperedPots x = new WhisperedPots();
        x.hand(0, 1);
        x.hand(0, 1);
        x.hand(2, 0);
        x.hand(2, 0);
        check.same("all pots with the guest 2", x.guest(2, 9), 7);
        check.same("none with the guest 4", x.guest(4, 9), 0);
    }

    private static void tales() {
        WhisperedPots x = new WhisperedPots();
        x.like(3, 5, 5, 11);
        x.hand(2, 0);
        x.hand(0, 0);
        x.hand(2, 1);
        x.hand(2, 0);
        x.hand(1, 1);
        // In order: (2, 4), (0, 0), (2, 3) with 11, (2, 4) again with 5, (1, 2).
        int[] pairs = {20, 0, 19, 10};
        int[] tolds = {5, 0, 11, 0};
        for (int rank = 0; rank < pairs.length; rank++) {
            check.same("tale(" + rank + ", 0)", x.tale(rank, 0), pairs[rank]);
            check.same("tale(" + rank + ", 1)", x.tale(rank, 1), tolds[rank]);
        }
        check.same("no fifth tale", x.tale(4, 0), -1);
        check.same("no fifth tale", x.tale(4, 1), -1);
        check.same("no last tale", x.tale(HIGHEST, 0), -1);
        check.same("pairs", x.count(8), 4);
        check.same("told(2, 4)", x.told(2, 4), 5);
        check.same("told(2, 3)", x.told(2, 3), 11);
        check.same("told(1, 2)", x.told(1, 2), 0);
        check.same("told(1, 3), never", x.told(1, 3), -1);
        check.same("told(0, 4), never", x.told(0, 4), -1);
        check.same("undo", x.undo(), 5);
        check.same("the tale is gone", x.tale(3, 0), -1);
        check.same("undo", x.undo(), 4);
        check.same("the older tale is back", x.tale(0, 1), 0);
        for (int pot = 0; pot < 3; pot++) {
            x.round(pot);
        }
        check.same("all pairs", x.count(8), 24);
        check.same("a last tale", x.tale(23, 1) >= 0 ? 1 : 0, 1);
        check.same("none behind it", x.tale(24, 0), -1);
        x.round(0);
        check.same("no pair twice", x.count(8), 24);
    }

    private static void refusals() {
        WhisperedPots x = new WhisperedPots();
        x.hand(0, 1);
        int[] tooMuch = {-1, LOWEST, HIGHEST};
        for (int wrong : tooMuch) {
            check.refused(x, "guest of " + wrong, Check.INDEX, () -> x.guest(wrong, 0));
            check.refused(x, "guest of " + wrong + " of nothing", Check.INDEX, () -> x.guest(wrong, 10));
            check.refused(x, "guest's " + wrong, Check.ARGUMENT, () -> x.guest(0, wrong));
            check.refused(x, "pot of " + wrong, Check.INDEX, () -> x.pot(wrong, 0));
            check.refused(x, "pot of " + wrong + " of nothing", Check.INDEX, () -> x.pot(wrong, 8));
            check.refused(x, "pot's " + wrong, Check.ARGUMENT, () -> x.pot(0, wrong));
            check.refused(x, "told of the pot " + wrong, Check.INDEX, () -> x.told(wrong, 0));
            check.refused(x, "told of the guest " + wrong, Check.INDEX, () -> x.told(0, wrong));
            check.refused(x, "tale's " + wrong, Check.ARGUMENT, () -> x.tale(0, wrong));
            check.refused(x, "count of " + wrong, Check.ARGUMENT, () -> x.count(wrong));
        }
        check.refused(x, "guest(8, 0)", Check.INDEX, () -> x.guest(8, 0));
        check.refused(x, "guest(7, 10)", Check.ARGUMENT, () -> x.guest(7, 10));
        check.refused(x, "pot(3, 0)", Check.INDEX, () -> x.pot(3, 0));
        check.refused(x, "pot(2, 8)", Check.ARGUMENT, () -> x.pot(2, 8));
        check.refused(x, "told(3, 0)", Check.INDEX, () -> x.told(3, 0));
        check.refused(x, "told(0, 8)", Check.INDEX, () -> x.told(0, 8));
        check.refused(x, "tale(-1, 0)", Check.INDEX, () -> x.tale(-1, 0));
        check.refused(x, "tale(LOWEST, 2)", Check.INDEX, () -> x.tale(LOWEST, 2));
        check.refused(x, "tale(0, 2)", Check.ARGUMENT, () -> x.tale(0, 2));
        check.refused(x, "tale(99, 2), of which there are not so many", Check.ARGUMENT, () -> x.tale(99, 2));
        check.refused(x, "count(10)", Check.ARGUMENT, () -> x.count(10));
    }

    public static void main(String[] args) {
        numbers();
        allPotsWithOne();
        tales();
        refusals();
        check.end();
    }
}
