/** The edges of promises 16 to 20, each beside its sentence. */
public final class EdgesLooksTest {
    private static final int[] NO_GUESTS = {-1, 8, Integer.MIN_VALUE, Integer.MAX_VALUE};
    private static final int[] NO_POTS = {-1, 3, Integer.MIN_VALUE, Integer.MAX_VALUE};
    private static final int NONE = WhisperedPots.NONE;

    private static final Check check = new Check("EdgesLooksTest");

    private static void guests() {
        check.says("Promise 16", "Tells something of a guest.");
        check.says("Promise 16", "Returns the number.");
        check.says("Promise 16", "`guest`: 0 to 7");
        check.says("Promise 16", "`what`: 0: what its cup takes; 1: the tea in it; 2: its thirst; 3: its trust; "
                + "4: its leaning; 5: its shame; 6: what it drank so far; 7: what it spilt so far; 8: what came "
                + "out of pots that it poured so far; 9: the pots with it, as a mask (the bit p for the pot p)");
        int[] masksAtFirst = {1, 0, 2, 0, 4, 0, 0, 0};
        for (int guest = 0; guest <= 7; guest++) {
            WhisperedPots x = new WhisperedPots();
            // The pot 0 goes on to the guest, who trusts its whisper of 0 alone: all comes.
            for (int i = 0; i < guest; i++) {
                x.hand(0, 1);
            }
            x.like(guest, 12, 10, -7);
            x.cup(guest, 25);
            x.brew(0, 33);
            x.pour(0);
            x.sip(guest);
            x.like(guest, 11, 8, -7);
            sameGuest(x, guest, new int[] {25, 13, 11, 8, -7, 1, 12, 8, 33, masksAtFirst[guest] | 1});
            for (int other = 0; other <= 7; other++) {
                if (other != guest) {
                    sameGuest(x, other, new int[] {30, 0, 5, 5, 0, 0, 0, 0, 0, masksAtFirst[other] & 6});
                }
            }
        }
    }

    private static void sameGuest(WhisperedPots x, int guest, int[] due) {
        for (int what = 0; what <= 9; what++) {
            check.same("guest(" + guest + ", " + what + ")", x.guest(guest, what), due[what]);
        }
    }

    private static void masks() {
        check.says("Promise 16", "9: the pots with it, as a mask (the bit p for the pot p)");
        for (int mask = 0; mask <= 7; mask++) {
            WhisperedPots x = new WhisperedPots();
            for (int pot = 0; pot < 3; pot++) {
                int steps = (mask >> pot & 1) == 1 ? 7 - 2 * pot : 0;
                for (int i = 0; i < steps; i++) {
                    x.hand(pot, 1);
                }
            }
            check.same("the pots with the guest 7", x.guest(7, 9), mask);
            check.same("the pots with the guest 0", x.guest(0, 9), (mask & 1) == 1 ? 0 : 1);
            check.same("the pots with the guest 4", x.guest(4, 9), (mask & 4) == 4 ? 0 : 4);
        }
    }

    private static void guestsRefused() {
        for (int guest : NO_GUESTS) {
            check.says("Promise 16", "Throws `IndexOutOfBoundsException` if there is no such guest");
            check.refusedWhole("guest of " + guest, Check.INDEX, Tables::busy, x -> x.guest(guest, 0));
            check.refusedWhole("guest of " + guest, Check.INDEX, Tables::busy, x -> x.guest(guest, 9));
            check.says("Exceptions", "If several exceptions apply, the one that is named first in the throws "
                    + "clause is thrown.");
            check.refusedWhole("guest of " + guest, Check.INDEX, Tables::busy, x -> x.guest(guest, -1));
            check.refusedWhole("guest of " + guest, Check.INDEX, Tables::busy, x -> x.guest(guest, 10));
        }
        for (int what : new int[] {-1, 10, Integer.MIN_VALUE, Integer.MAX_VALUE}) {
            check.says("Promise 16", "Throws `IllegalArgumentException` if what is not 0 to 9");
            check.refusedWhole("guest's " + what, Check.ARGUMENT, Tables::busy, x -> x.guest(0, what));
            check.refusedWhole("guest's " + what, Check.ARGUMENT, Tables::busy, x -> x.guest(7, what));
        }
    }

    private static void pots() {
        check.says("Promise 17", "Tells something of a pot.");
        check.says("Promise 17", "Returns the number.");
        check.says("Promise 17", "`pot`: 0 to 2");
        check.says("Promise 17", "`what`: 0: the guest with it; 1: its fill; 2: its whisper; 3: its weight; 4: "
                + "the guess of the guest with it; 5: why that guest can not pour, 0 if it can; 6: what was "
                + "brewed into it so far; 7: how often it was handed on so far");
        for (int pot = 0; pot <= 2; pot++) {
            WhisperedPots x = new WhisperedPots();
            x.brew(pot, 30);
            x.like(2 * pot, 5, 10, 13);
            x.pour(pot);
            x.brew(pot, 47);
            int[] full = {2 * pot, 47, 0, 40, 4, 2, 77, 0};
            for (int what = 0; what <= 7; what++) {
                check.same("pot(" + pot + ", " + what + ")", x.pot(pot, what), full[what]);
            }
            // The trust was 10 and is 9, so 4 and the leaning are told; the next guest trusts half of it.
            x.hand(pot, 1);
            int[] then = {2 * pot + 1, 47, 17, 40, 28, 0, 77, 1};
            for (int what = 0; what <= 7; what++) {
                check.same("pot(" + pot + ", " + what + ") then", x.pot(pot, what), then[what]);
            }
            x.round(pot);
            check.same("handed on", x.pot(pot, 7), 9);
            check.same("brewed", x.pot(pot, 6), 77);
        }
    }

    private static void potsRefused() {
        for (int pot : NO_POTS) {
            check.says("Promise 17", "Throws `IndexOutOfBoundsException` if there is no such pot");
            check.refusedWhole("pot of " + pot, Check.INDEX, Tables::busy, x -> x.pot(pot, 0));
            check.refusedWhole("pot of " + pot, Check.INDEX, Tables::busy, x -> x.pot(pot, 7));
            check.says("Exceptions", "If several exceptions apply, the one that is named first in the throws "
                    + "clause is thrown.");
            check.refusedWhole("pot of " + pot, Check.INDEX, Tables::busy, x -> x.pot(pot, -1));
            check.refusedWhole("pot of " + pot, Check.INDEX, Tables::busy, x -> x.pot(pot, 8));
        }
        for (int what : new int[] {-1, 8, Integer.MIN_VALUE, Integer.MAX_VALUE}) {
            check.says("Promise 17", "Throws `IllegalArgumentException` if what is not 0 to 7");
            check.refusedWhole("pot's " + what, Check.ARGUMENT, Tables::busy, x -> x.pot(0, what));
            check.refusedWhole("pot's " + what, Check.ARGUMENT, Tables::busy, x -> x.pot(2, what));
        }
    }

    private static void tolds() {
        check.says("Exceptions", "The constants: `NONE = -1`: There is nothing to return.");
        check.same("NONE", NONE, -1);
        check.says("Promise 18", "`pot`: 0 to 2");
        check.says("Promise 18", "`guest`: 0 to 7");
        check.says("Promise 18", "Tells what a guest told of a pot, as it handed it on the last time.");
        check.says("Promise 18", "Returns the whisper; NONE if it never did.");
        for (int pot = 0; pot <= 2; pot += 2) {
            for (int guest = 0; guest <= 7; guest += 7) {
                WhisperedPots x = new WhisperedPots();
                while (x.pot(pot, 0) != guest) {
                    x.hand(pot, 0);
                }
                check.same("never told", x.told(pot, guest), NONE);
                x.hand(pot, 1);
                check.same("a whisper of 0 is one", x.told(pot, guest), 0);
                x.hand(pot, 0);
                x.like(guest, 5, 0, 1);
                check.same("the leaning alone tells nothing", x.told(pot, guest), 0);
                x.hand(pot, 0);
                check.same("told the last time", x.told(pot, guest), 1);
                check.same("told of the pot 1", x.told(1, guest), NONE);
                check.same("told by the guest 3", x.told(pot, 3), pot == 0 ? NONE : 0);
            }
        }
        WhisperedPots y = Tables.at(30, 0, 200, 0, 0);
        y.hand(0, 0);
        check.same("a whisper of 200", y.told(0, 0), 200);
        for (int pot : NO_POTS) {
            check.says("Promise 18", "Throws `IndexOutOfBoundsException` if there is no such pot or guest");
            check.refusedWhole("told of the pot " + pot, Check.INDEX, Tables::busy, x -> x.told(pot, 0));
            check.refusedWhole("told of the pot " + pot, Check.INDEX, Tables::busy, x -> x.told(pot, 7));
            check.refusedWhole("told of neither", Check.INDEX, Tables::busy, x -> x.told(pot, 8));
        }
        for (int guest : NO_GUESTS) {
            check.refusedWhole("told of the guest " + guest, Check.INDEX, Tables::busy, x -> x.told(0, guest));
            check.refusedWhole("told of the guest " + guest, Check.INDEX, Tables::busy, x -> x.told(2, guest));
        }
    }

    private static void tales() {
        check.says("Promise 19", "Tells of what was told, in the order in which guests told it of a pot the "
                + "first time.");
        check.says("Promise 19", "`rank`: 0 for the first one, and so on");
        check.says("Promise 19", "`what`: 0: 8 times the pot and the guest; 1: what it told the last time");
        check.says("Promise 19", "Returns the number; NONE if there are not so many.");
        WhisperedPots x = new WhisperedPots();
        check.same("none at first", x.tale(0, 0), NONE);
        check.same("none at first", x.tale(0, 1), NONE);
        x.like(5, 5, 5, 20);
        int count = 0;
        for (int pot = 2; pot >= 0; pot--) {
            for (int i = 0; i < 8; i++) {
                int guest = x.pot(pot, 0);
                check.same("not so many", x.tale(count, 0), NONE);
                check.same("not so many", x.tale(count, 1), NONE);
                x.hand(pot, 0);
                check.same("the tale " + count, x.tale(count, 0), 8 * pot + guest);
                check.same("what it told", x.tale(count, 1), x.told(pot, guest));
                count++;
            }
        }
        check.same("the first one", x.tale(0, 0), 20);
        check.same("the last one", x.tale(23, 0), 1);
        check.same("what the last one told", x.tale(23, 1), x.told(0, 1));
        check.same("none behind the last one", x.tale(24, 0), NONE);
        check.same("none far behind", x.tale(Integer.MAX_VALUE, 1), NONE);
        x.like(4, 5, 10, 20);
        x.brew(2, 200);
        x.hand(2, 1);
        check.same("the order stays", x.tale(0, 0), 20);
        check.same("what it told the last time", x.tale(0, 1), x.told(2, 4));
        check.same("and that is new", x.tale(0, 1), x.pot(2, 2));
        check.same("none more", x.tale(24, 0), NONE);
    }

    private static void talesRefused() {
        for (int rank : new int[] {-1, -2, -24, Integer.MIN_VALUE}) {
            check.says("Promise 19", "Throws `IndexOutOfBoundsException` if rank is below 0");
            check.refusedWhole("tale of " + rank, Check.INDEX, Tables::busy, x -> x.tale(rank, 0));
            check.refusedWhole("tale of " + rank, Check.INDEX, WhisperedPots::new, x -> x.tale(rank, 1));
            check.says("Exceptions", "If several exceptions apply, the one that is named first in the throws "
                    + "clause is thrown.");
            check.refusedWhole("tale of " + rank, Check.INDEX, Tables::busy, x -> x.tale(rank, -1));
            check.refusedWhole("tale of " + rank, Check.INDEX, Tables::busy, x -> x.tale(rank, 2));
        }
        for (int what : new int[] {-1, 2, Integer.MIN_VALUE, Integer.MAX_VALUE}) {
            check.says("Promise 19", "Throws `IllegalArgumentException` if what is not 0 or 1");
            check.refusedWhole("tale's " + what, Check.ARGUMENT, Tables::busy, x -> x.tale(0, what));
            check.refusedWhole("tale's " + what, Check.ARGUMENT, Tables::busy, x -> x.tale(7, what));
            check.refusedWhole("tale's " + what + " of none", Check.ARGUMENT, Tables::busy, x -> x.tale(8, what));
            check.refusedWhole("tale's " + what + " of none", Check.ARGUMENT, WhisperedPots::new,
                    x -> x.tale(0, what));
        }
    }

    private static void counts() {
        check.says("Promise 20", "Returns a number.");
        check.says("Promise 20", "`what`: 0: the tea brewed so far; 1: the tea drunk so far; 2: the tea spilt so "
                + "far; 3: the tea in pots and cups, told pot by pot and cup by cup; 4: the same, told as what "
                + "was brewed less what was drunk and spilt; 5: pours so far; 6: pours by which something was "
                + "spilt so far; 7: how often pots were handed on so far; 8: guests and pots of which something "
                + "was told so far, how many pairs; 9: saved states");
        WhisperedPots x = new WhisperedPots();
        sameCounts(x, new int[] {0, 0, 0, 0, 0, 0, 0, 0, 0, 0});
        x.brew(0, 19);
        sameCounts(x, new int[] {19, 0, 0, 19, 19, 0, 0, 0, 0, 1});
        x.pour(0);
        sameCounts(x, new int[] {19, 0, 0, 19, 19, 1, 0, 0, 0, 2});
        x.sip(0);
        sameCounts(x, new int[] {19, 5, 0, 14, 14, 1, 0, 0, 0, 3});
        x.brew(0, 17);
        x.pour(0);
        sameCounts(x, new int[] {36, 5, 1, 30, 30, 2, 1, 0, 0, 5});
        x.hand(0, 1);
        x.hand(0, 0);
        sameCounts(x, new int[] {36, 5, 1, 30, 30, 2, 1, 2, 2, 6});
        x.hand(0, 1);
        x.hand(0, 0);
        sameCounts(x, new int[] {36, 5, 1, 30, 30, 2, 1, 4, 2, 6});
        for (int pot = 0; pot < 3; pot++) {
            x.round(pot);
        }
        sameCounts(x, new int[] {36, 5, 1, 30, 30, 2, 1, 28, 24, 6});
        x.round(1);
        for (int pot = 0; pot < 3; pot++) {
            x.brew(pot, 200);
        }
        sameCounts(x, new int[] {636, 5, 1, 630, 630, 2, 1, 36, 24, 6});
        check.says("Promise 20", "Returns the number.");
        for (int left = 5; left >= 0; left--) {
            x.undo();
            check.same("saved states", x.count(9), left);
        }
        for (int what : new int[] {-1, 10, Integer.MIN_VALUE, Integer.MAX_VALUE}) {
            check.says("Promise 20", "Throws `IllegalArgumentException` if what is not 0 to 9");
            check.refusedWhole("count of " + what, Check.ARGUMENT, Tables::busy, y -> y.count(what));
        }
    }

    private static void sameCounts(WhisperedPots x, int[] due) {
        for (int what = 0; what <= 9; what++) {
            check.same("count(" + what + ")", x.count(what), due[what]);
        }
    }

    public static void main(String[] args) {
        guests();
        masks();
        guestsRefused();
        pots();
        potsRefused();
        tolds();
        tales();
        talesRefused();
        counts();
        check.end();
    }
}
