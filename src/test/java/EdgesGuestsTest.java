/** The edges of promises 1 to 4 and of what the document says of guests, each beside its sentence. */
public final class EdgesGuestsTest {
    private static final int[] NO_GUESTS = {-1, 8, Integer.MIN_VALUE, Integer.MAX_VALUE};

    private static final Check check = new Check("EdgesGuestsTest");

    private static void roundTheTable() {
        check.says("Guests", "There are 8 guests, numbered from 0, round the table; the next one to the guest 7 "
                + "is the guest 0.");
        int[] onwards = {1, 2, 3, 4, 5, 6, 7, 0, 1};
        int[] back = {0, 7, 6, 5, 4, 3, 2, 1, 0, 7};
        WhisperedPots x = new WhisperedPots();
        for (int due : onwards) {
            check.same("hand to the next", x.hand(0, 1), due);
        }
        for (int due : back) {
            check.same("hand to the one before", x.hand(0, 0), due);
        }
        check.same("from the guest 7 to the next", x.hand(0, 1), 0);
        for (int guest : new int[] {0, 7}) {
            check.same("like of " + guest, x.like(guest, 6, 5, 0), 5);
            check.same("cup of " + guest, x.cup(guest, 31), 30);
            check.same("sip of " + guest, x.sip(guest), 0);
            check.same("guest of " + guest, x.guest(guest, 0), 31);
            check.same("told of " + guest, x.told(1, guest), WhisperedPots.NONE);
        }
        check.same("the guest 1 stays", x.guest(1, 2), 5);
        check.same("the guest 6 stays", x.guest(6, 0), 30);
    }

    private static void atFirst() {
        check.says("Guests", "A guest has a cup, which takes 10 to 40, at first 30, with some tea in it, at "
                + "first 0; a thirst, 1 to 20, at first 5; a trust, 0 to 10, at first 5; a leaning, -20 to 20, "
                + "at first 0; and a shame, at first 0.");
        WhisperedPots x = new WhisperedPots();
        int[] due = {30, 0, 5, 5, 0, 0};
        for (int guest = 0; guest < 8; guest++) {
            for (int what = 0; what < due.length; what++) {
                check.same("guest(" + guest + ", " + what + ")", x.guest(guest, what), due[what]);
            }
        }
        check.says("Guests", "A pot is with a guest, at first the pot p with the guest 2 p; it has a fill, 0 to "
                + "200, at first 0; and a whisper, what was told of its fill the last time, at first 0.");
        for (int pot = 0; pot < 3; pot++) {
            check.same("with the guest", x.pot(pot, 0), 2 * pot);
            check.same("fill", x.pot(pot, 1), 0);
            check.same("whisper", x.pot(pot, 2), 0);
        }
        check.says("Promise 1", "Creates guests and empty pots as told above, with an empty buffer and no "
                + "snapshot.");
        check.same("the length of the buffer", x.clearBuffer(), 0);
        check.refusedWhole("goBack", Check.STATE, WhisperedPots::new, y -> y.goBack());
        check.refusedWhole("undo", Check.STATE, WhisperedPots::new, y -> y.undo());
        check.refusedWhole("run", Check.ARGUMENT, WhisperedPots::new, y -> y.run());
        check.same("nothing is counted", sumOfCounts(x), 0);
    }

    private static int sumOfCounts(WhisperedPots x) {
        int sum = 0;
        for (int what = 0; what < 10; what++) {
            sum += x.count(what);
        }
        return sum;
    }

    private static void likeWithin() {
        WhisperedPots x = new WhisperedPots();
        check.says("Promise 2", "`guest`: 0 to 7");
        check.same("like of the first guest", x.like(0, 5, 5, 0), 5);
        check.same("like of the last guest", x.like(7, 5, 5, 0), 5);
        check.says("Promise 2", "Changes what a guest is like.");
        check.says("Promise 2", "Returns its thirst before.");
        int[] thirsts = {1, 2, 19, 20, 1};
        int before = 5;
        for (int thirst : thirsts) {
            check.says("Promise 2", "`thirst`: 1 to 20");
            check.same("like with the thirst " + thirst, x.like(7, thirst, 5, 0), before);
            check.same("thirst", x.guest(7, 2), thirst);
            before = thirst;
        }
        for (int trust : new int[] {0, 1, 9, 10, 0}) {
            check.says("Promise 2", "`trust`: 0 to 10");
            check.same("like with the trust " + trust, x.like(7, 1, trust, 0), 1);
            check.same("trust", x.guest(7, 3), trust);
        }
        for (int leaning : new int[] {-20, -19, -1, 0, 1, 19, 20, -20}) {
            check.says("Promise 2", "`leaning`: -20 to 20");
            check.same("like with the leaning " + leaning, x.like(7, 1, 0, leaning), 1);
            check.same("leaning", x.guest(7, 4), leaning);
        }
        check.same("the cup stays", x.guest(7, 0), 30);
        check.same("the guest 0 stays", x.guest(0, 2), 5);
        check.same("the guest 6 stays", x.guest(6, 4), 0);
    }

    private static void likeRefused() {
        int[][] beyond = {{0, 5, 0}, {21, 5, 0}, {5, -1, 0}, {5, 11, 0}, {5, 5, -21}, {5, 5, 21}, {-5, 5, 0},
            {Integer.MIN_VALUE, 5, 0}, {Integer.MAX_VALUE, 5, 0}, {5, Integer.MIN_VALUE, 0},
            {5, Integer.MAX_VALUE, 0}, {5, 5, Integer.MIN_VALUE}, {5, 5, Integer.MAX_VALUE}, {0, 11, 21}};
        for (int[] b : beyond) {
            String named = "like with " + b[0] + ", " + b[1] + ", " + b[2];
            check.says("Promise 2", "Throws `IllegalArgumentException` if thirst, trust or leaning is out of "
                    + "range");
            check.refusedWhole(named, Check.ARGUMENT, Tables::busy, x -> x.like(0, b[0], b[1], b[2]));
            check.refusedWhole(named, Check.ARGUMENT, Tables::busy, x -> x.like(7, b[0], b[1], b[2]));
            check.says("Exceptions", "If several exceptions apply, the one that is named first in the throws "
                    + "clause is thrown.");
            check.refusedWhole(named + " of no guest", Check.INDEX, Tables::busy, x -> x.like(8, b[0], b[1], b[2]));
            check.refusedWhole(named + " of no guest", Check.INDEX, Tables::busy, x -> x.like(-1, b[0], b[1], b[2]));
        }
        for (int guest : NO_GUESTS) {
            check.says("Promise 2", "Throws `IndexOutOfBoundsException` if there is no such guest");
            check.refusedWhole("like of " + guest, Check.INDEX, Tables::busy, x -> x.like(guest, 5, 5, 0));
        }
    }

    private static void cupWithin() {
        WhisperedPots x = new WhisperedPots();
        check.says("Promise 3", "`guest`: 0 to 7");
        check.same("cup of the first guest", x.cup(0, 30), 30);
        check.same("cup of the last guest", x.cup(7, 30), 30);
        int before = 30;
        for (int takes : new int[] {10, 11, 39, 40, 10}) {
            check.says("Promise 3", "`takes`: 10 to 40");
            check.same("takes", x.cup(7, takes), before);
            check.says("Promise 3", "Returns what the old cup took.");
            check.same("takes then", x.guest(7, 0), takes);
            before = takes;
        }
        check.same("the guest 6 stays", x.guest(6, 0), 30);
        check.says("Promise 3", "Gives a guest another cup; the tea goes from the old one to the new one.");
        WhisperedPots y = Tables.at(30, 20, 0, 0, 5);
        check.same("cup", y.cup(0, 21), 30);
        check.same("the tea goes along", y.guest(0, 1), 20);
        check.same("nothing is spilt", y.count(2), 0);
        check.same("nothing is drunk", y.count(1), 0);
    }

    private static void cupWithTea() {
        check.says("Promise 3", "Throws `IllegalStateException` if there is more tea in the old one than that");
        check.same("just as much", Tables.at(30, 20, 0, 0, 5).cup(0, 20), 30);
        check.same("one less", Tables.at(30, 20, 0, 0, 5).cup(0, 21), 30);
        check.refusedWhole("cup for one less", Check.STATE, () -> Tables.at(30, 20, 0, 0, 5), x -> x.cup(0, 19));
        check.same("just 10", Tables.at(30, 10, 0, 0, 5).cup(0, 10), 30);
        check.refusedWhole("11 in a cup for 10", Check.STATE, () -> Tables.at(30, 11, 0, 0, 5), x -> x.cup(0, 10));
        check.same("just 40", Tables.at(40, 40, 0, 0, 5).cup(0, 40), 40);
        check.refusedWhole("40 in a cup for 39", Check.STATE, () -> Tables.at(40, 40, 0, 0, 5), x -> x.cup(0, 39));
        check.refusedWhole("30 in a cup for 29", Check.STATE, Tables::busy, x -> x.cup(0, 29));
        check.says("Exceptions", "If several exceptions apply, the one that is named first in the throws clause "
                + "is thrown.");
        check.refusedWhole("10 in a cup for 9", Check.ARGUMENT, () -> Tables.at(30, 10, 0, 0, 5), x -> x.cup(0, 9));
    }

    private static void cupRefused() {
        for (int takes : new int[] {9, 41, 0, -1, -30, Integer.MIN_VALUE, Integer.MAX_VALUE}) {
            check.says("Promise 3", "Throws `IllegalArgumentException` if takes is out of range");
            check.refusedWhole("cup for " + takes, Check.ARGUMENT, Tables::busy, x -> x.cup(1, takes));
            check.refusedWhole("cup for " + takes + " of a full cup", Check.ARGUMENT, Tables::busy,
                    x -> x.cup(0, takes));
            check.says("Exceptions", "If several exceptions apply, the one that is named first in the throws "
                    + "clause is thrown.");
            check.refusedWhole("cup for " + takes + " of no guest", Check.INDEX, Tables::busy, x -> x.cup(8, takes));
        }
        for (int guest : NO_GUESTS) {
            check.says("Promise 3", "Throws `IndexOutOfBoundsException` if there is no such guest");
            check.refusedWhole("cup of " + guest, Check.INDEX, Tables::busy, x -> x.cup(guest, 30));
        }
    }

    private static void sips() {
        check.says("Guests", "When a guest sips, as much tea goes out of its cup as its thirst tells, or all, if "
                + "that is less; that is drunk.");
        int[][] rows = {{1, 0, 0}, {1, 1, 1}, {1, 2, 1}, {5, 0, 0}, {5, 1, 1}, {5, 4, 4}, {5, 5, 5}, {5, 6, 5},
            {20, 19, 19}, {20, 20, 20}, {20, 21, 20}, {20, 40, 20}};
        for (int[] row : rows) {
            WhisperedPots x = Tables.at(40, row[1], 0, 0, 5);
            x.like(0, row[0], 5, 0);
            String named = "the thirst " + row[0] + " of " + row[1];
            check.same(named, x.sip(0), row[2]);
            check.same("tea in the cup behind " + named, x.guest(0, 1), row[1] - row[2]);
            check.same("drunk by " + named, x.guest(0, 6), row[2]);
            check.same("drunk by all behind " + named, x.count(1), row[2]);
        }
        check.says("Promise 4", "A guest sips.");
        check.says("Promise 4", "Returns what it drinks.");
        check.same("of the rest", sipsOf(7, 3), 1);
        check.same("of nothing", sipsOf(7, 4), 0);
        check.says("Promise 4", "`guest`: 0 to 7");
        check.same("sip of the first guest", new WhisperedPots().sip(0), 0);
        check.same("sip of the last guest", new WhisperedPots().sip(7), 0);
        check.says("Promise 4", "Throws `IndexOutOfBoundsException` if there is no such guest");
        for (int guest : NO_GUESTS) {
            check.refusedWhole("sip of " + guest, Check.INDEX, Tables::busy, x -> x.sip(guest));
        }
    }

    /** What the last of so many sips of 3 drinks. */
    private static int sipsOf(int tea, int times) {
        WhisperedPots x = Tables.at(10, tea, 0, 0, 5);
        x.like(0, 3, 5, 0);
        int drunk = 0;
        for (int i = 0; i < times; i++) {
            drunk = x.sip(0);
        }
        return drunk;
    }

    private static void undoable() {
        check.says("Promise 2", "Undoable.");
        check.undoable("like", x -> x.like(7, 20, 10, 20));
        check.undoable("like of the same", x -> x.like(5, 5, 5, 0));
        check.says("Promise 3", "Undoable.");
        check.undoable("cup", x -> x.cup(0, 40));
        check.undoable("cup of the same", x -> x.cup(5, 30));
        check.says("Promise 4", "Undoable.");
        check.undoable("sip", x -> x.sip(0));
        check.undoable("sip of nothing", x -> x.sip(5));
    }

    public static void main(String[] args) {
        roundTheTable();
        atFirst();
        likeWithin();
        likeRefused();
        cupWithin();
        cupWithTea();
        cupRefused();
        sips();
        undoable();
        check.end();
    }
}
