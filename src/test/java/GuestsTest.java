/** Promises 1 to 4: a new object, like, cup, sip. */
public final class GuestsTest {
    private static final int LOWEST = Integer.MIN_VALUE;
    private static final int HIGHEST = Integer.MAX_VALUE;

    private static final Check check = new Check("GuestsTest");

    private static void newObject() {
        WhisperedPots x = new WhisperedPots();
        int[] guestAtFirst = {30, 0, 5, 5, 0, 0, 0, 0, 0};
        int[] masks = {1, 0, 2, 0, 4, 0, 0, 0};
        for (int guest = 0; guest < 8; guest++) {
            for (int what = 0; what < 9; what++) {
                check.same("new guest(" + guest + ", " + what + ")", x.guest(guest, what), guestAtFirst[what]);
            }
            check.same("new guest(" + guest + ", 9)", x.guest(guest, 9), masks[guest]);
        }
        for (int pot = 0; pot < 3; pot++) {
            int[] potAtFirst = {2 * pot, 0, 0, 0, 0, 1, 0, 0};
            for (int what = 0; what < 8; what++) {
                check.same("new pot(" + pot + ", " + what + ")", x.pot(pot, what), potAtFirst[what]);
            }
            for (int guest = 0; guest < 8; guest++) {
                check.same("new told(" + pot + ", " + guest + ")", x.told(pot, guest), -1);
            }
            for (int what = 0; what < 3; what++) {
                check.same("new ifPoured(" + pot + ", " + what + ")", x.ifPoured(pot, what), -1);
            }
            check.same("new emptyIn", x.emptyIn(pot), 0);
            check.same("new bestGuest", x.bestGuest(pot), -1);
        }
        for (int what = 0; what < 10; what++) {
            check.same("new count(" + what + ")", x.count(what), 0);
        }
        check.same("new tale(0, 0)", x.tale(0, 0), -1);
        check.same("new tale(0, 1)", x.tale(0, 1), -1);
        check.sameReal("new spiltShare", x.spiltShare(), 0.0);
        check.sameReal("new meanTrust", x.meanTrust(), 5.0);
        check.same("new firstError", x.firstError(), 0);
        check.same("new clearBuffer", x.clearBuffer(), 0);
        check.refused(x, "new undo", Check.STATE, () -> x.undo());
        check.refused(x, "new goBack", Check.STATE, () -> x.goBack());
        check.same("two new objects", x.digest(), new WhisperedPots().digest());
    }

    private static void like() {
        WhisperedPots x = new WhisperedPots();
        check.same("like the most", x.like(7, 20, 10, 20), 5);
        check.same("thirst", x.guest(7, 2), 20);
        check.same("trust", x.guest(7, 3), 10);
        check.same("leaning", x.guest(7, 4), 20);
        check.same("like the least", x.like(7, 1, 0, -20), 20);
        check.same("thirst", x.guest(7, 2), 1);
        check.same("trust", x.guest(7, 3), 0);
        check.same("leaning", x.guest(7, 4), -20);
        check.same("the guest beside it", x.guest(6, 2), 5);
        check.same("saved states", x.count(9), 2);
        check.same("undo", x.undo(), 1);
        check.same("thirst then", x.guest(7, 2), 20);
        check.same("like the same again", x.like(7, 20, 10, 20), 20);
        check.same("a change to the same is saved", x.count(9), 2);

        int[][] wrong = {{0, 5, 0}, {21, 5, 0}, {5, -1, 0}, {5, 11, 0}, {5, 5, -21}, {5, 5, 21},
            {LOWEST, 5, 0}, {HIGHEST, 5, 0}, {5, LOWEST, 0}, {5, HIGHEST, 0}, {5, 5, LOWEST}, {5, 5, HIGHEST}};
        for (int[] w : wrong) {
            String named = "like(0, " + w[0] + ", " + w[1] + ", " + w[2] + ")";
            check.refused(x, named, Check.ARGUMENT, () -> x.like(0, w[0], w[1], w[2]));
            check.refused(x, named + " of no guest", Check.INDEX, () -> x.like(8, w[0], w[1], w[2]));
        }
        for (int guest : new int[] {-1, 8, LOWEST, HIGHEST}) {
            check.refused(x, "like of " + guest, Check.INDEX, () -> x.like(guest, 5, 5, 0));
        }
    }

    private static void cup() {
        WhisperedPots x = new WhisperedPots();
        check.same("cup to 40", x.cup(0, 40), 30);
        check.same("cup to 10", x.cup(0, 10), 40);
        check.same("takes", x.guest(0, 0), 10);
        check.same("the guest beside it", x.guest(1, 0), 30);
        check.same("cup to 20", x.cup(0, 20), 10);
        // 20 into the cup: the weight is 20, trusted half, so the guess is 10 and all 20 come.
        x.brew(0, 20);
        check.same("pour 20 into it", x.pour(0), 0);
        check.same("tea", x.guest(0, 1), 20);
        check.refused(x, "cup with too much tea", Check.STATE, () -> x.cup(0, 19));
        check.same("cup with just as much", x.cup(0, 20), 20);
        check.same("cup to 21", x.cup(0, 21), 20);
        check.same("the tea goes along", x.guest(0, 1), 20);
        check.same("undo", x.undo(), 5);
        check.same("takes then", x.guest(0, 0), 20);
        for (int takes : new int[] {9, 41, 0, -1, LOWEST, HIGHEST}) {
            check.refused(x, "cup of " + takes, Check.ARGUMENT, () -> x.cup(0, takes));
            check.refused(x, "cup of no guest and " + takes, Check.INDEX, () -> x.cup(-1, takes));
        }
        for (int guest : new int[] {-1, 8, LOWEST, HIGHEST}) {
            check.refused(x, "cup for " + guest, Check.INDEX, () -> x.cup(guest, 30));
        }
    }

    private static void sip() {
        WhisperedPots x = new WhisperedPots();
        check.same("sip from nothing", x.sip(0), 0);
        check.same("saved, although it changed nothing", x.count(9), 1);
        x.brew(0, 20);
        x.like(0, 8, 5, 0);
        x.pour(0);
        check.same("sip", x.sip(0), 8);
        check.same("tea then", x.guest(0, 1), 12);
        check.same("sip", x.sip(0), 8);
        check.same("sip the rest", x.sip(0), 4);
        check.same("sip from nothing", x.sip(0), 0);
        check.same("drunk", x.guest(0, 6), 20);
        check.same("drunk by all", x.count(1), 20);
        check.same("tea in all", x.count(3), 0);
        check.same("undo", x.undo(), 5);
        check.same("undo", x.undo(), 4);
        check.same("drunk then", x.guest(0, 6), 16);
        for (int guest : new int[] {-1, 8, LOWEST, HIGHEST}) {
            check.refused(x, "sip of " + guest, Check.INDEX, () -> x.sip(guest));
        }
    }

    public static void main(String[] args) {
        newObject();
        like();
        cup();
        sip();
        check.end();
    }
}
