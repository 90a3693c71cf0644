import java.math.BigInteger;
import java.util.List;

/** The edges of promises 21 to 26, each beside its sentence. */
public final class EdgesWhatIfTest {
    private static final int[] NO_POTS = {-1, 3, Integer.MIN_VALUE, Integer.MAX_VALUE};
    private static final int NONE = WhisperedPots.NONE;

    private static final Check check = new Check("EdgesWhatIfTest");

    private static void ifPoured() {
        check.says("Promise 21", "Tells what a pour would bring.");
        check.says("Promise 21", "`pot`: 0 to 2");
        check.says("Promise 21", "`what`: 0: what would come; 1: what would be spilt; 2: the trust of the guest "
                + "then");
        for (int pot = 0; pot <= 2; pot++) {
            WhisperedPots x = new WhisperedPots();
            x.cup(2 * pot, 29 - pot);
            x.brew(pot, 31);
            int[] due = {31, 2 + pot, 4};
            for (int what = 0; what <= 2; what++) {
                check.same("ifPoured(" + pot + ", " + what + ")", x.ifPoured(pot, what), due[what]);
            }
            check.same("nothing is poured", x.pot(pot, 1), 31);
            check.same("no pour is counted", x.count(5), 0);
        }
        check.says("Promise 21", "Returns the number; NONE if the guest can not pour.");
        for (int what = 0; what <= 2; what++) {
            check.same("of nothing", Tables.at(10, 0, 0, 0, 5).ifPoured(0, what), NONE);
            check.same("without room", Tables.at(10, 10, 1, 0, 5).ifPoured(0, what), NONE);
            check.same("without both", Tables.at(10, 10, 0, 0, 5).ifPoured(0, what), NONE);
            check.same("of 1, room for 1", Tables.at(10, 9, 1, 0, 0).ifPoured(0, what), what == 0 ? 1 : 0);
            check.same("of which nothing comes", Tables.at(10, 9, 1, 200, 1).ifPoured(0, what), 0);
        }
        for (int what : new int[] {-1, 3, Integer.MIN_VALUE, Integer.MAX_VALUE}) {
            check.says("Promise 21", "Throws `IllegalArgumentException` if what is not 0 to 2");
            check.refusedWhole("ifPoured's " + what, Check.ARGUMENT, Tables::busy, x -> x.ifPoured(2, what));
            check.refusedWhole("ifPoured's " + what, Check.ARGUMENT, Tables::busy, x -> x.ifPoured(0, what));
            check.refusedWhole("ifPoured's " + what, Check.ARGUMENT, Tables::busy, x -> x.ifPoured(1, what));
            check.says("Exceptions", "If several exceptions apply, the one that is named first in the throws "
                    + "clause is thrown.");
            check.refusedWhole("ifPoured's " + what, Check.INDEX, Tables::busy, x -> x.ifPoured(3, what));
            check.refusedWhole("ifPoured's " + what, Check.INDEX, Tables::busy, x -> x.ifPoured(-1, what));
        }
        for (int pot : NO_POTS) {
            check.says("Promise 21", "Throws `IndexOutOfBoundsException` if there is no such pot");
            check.refusedWhole("ifPoured of " + pot, Check.INDEX, Tables::busy, x -> x.ifPoured(pot, 0));
        }
    }

    /**
     * One guest alone pours in a round, the first one: it has 4 of 10 in its cup, gets 6 or more, and sips 6. It
     * guesses by weight: either by itself, and goes on so, since it is told 20 less; or as the one before it, whom it
     * believes, tells the weight. The others have full cups and sip 1.
     */
    private static WhisperedPots slow(int first, boolean believes, int fill) {
        WhisperedPots x = new WhisperedPots();
        for (int guest = 0; guest < 8; guest++) {
            x.like(guest, 1, 10, 0);
            x.cup(guest, guest == first ? 10 : 40);
            x.brew(0, guest == first ? 4 : 40);
            x.pour(0);
            x.hand(0, 1);
        }
        while (x.pot(0, 0) != first) {
            x.hand(0, 1);
        }
        x.like(first, 6, believes ? 10 : 0, 0);
        x.like((first + 7) % 8, 1, 0, believes ? 0 : -20);
        x.brew(0, fill);
        for (int i = 0; believes && i < 8; i++) {
            x.hand(0, 1);
        }
        return x;
    }

    private static void emptyIn() {
        check.says("Promise 22", "`pot`: 0 to 2");
        check.says("Promise 22", "Tells when a pot is empty by rounds alone; behind each round all guests sip, "
                + "by their numbers.");
        check.says("Promise 22", "Returns behind how many rounds, 0 if it is now; NONE if it is not within 20.");
        for (int pot = 0; pot <= 2; pot++) {
            WhisperedPots x = new WhisperedPots();
            check.same("empty now", x.emptyIn(pot), 0);
            x.brew(pot, 1);
            check.same("behind one round", x.emptyIn(pot), 1);
            check.same("nothing is poured", x.count(5), 0);
            check.same("nothing is told", x.count(8), 0);
        }
        // What comes of 20: 6; of 14, which weighs nothing, all. Of 27: 8, then 19. Of 28: 8, then 6 of 20, then 14.
        // Of 40: 6, then 10 of 34, then 7 of 24, then 17.
        int[][] rows = {{1, 1}, {19, 1}, {20, 2}, {27, 2}, {28, 3}, {40, 4}, {136, 19}, {141, 19}, {142, 20},
            {147, 20}, {148, NONE}, {153, NONE}, {200, NONE}};
        for (int first = 0; first < 8; first++) {
            for (int[] row : rows) {
                check.same("emptyIn of " + row[0], slow(first, false, row[0]).emptyIn(0), row[1]);
                check.same("emptyIn of " + row[0] + " as told", slow(first, true, row[0]).emptyIn(0), row[1]);
                check.same("emptied of " + row[0], emptied(slow(first, false, row[0]), 0), row[1]);
                check.same("emptied of " + row[0] + " as told", emptied(slow(first, true, row[0]), 0), row[1]);
            }
        }
        for (int pot = 0; pot <= 2; pot++) {
            check.same("emptyIn in use", Tables.inUse().emptyIn(pot), emptied(Tables.inUse(), pot));
            check.same("emptyIn of a busy one", Tables.busy().emptyIn(pot), emptied(Tables.busy(), pot));
        }
        check.says("Promise 22", "Throws `IndexOutOfBoundsException` if there is no such pot");
        for (int pot : NO_POTS) {
            check.refusedWhole("emptyIn of " + pot, Check.INDEX, Tables::busy, x -> x.emptyIn(pot));
        }
    }

    private static int emptied(WhisperedPots x, int pot) {
        int rounds = 0;
        while (x.pot(pot, 1) > 0 && rounds < 20) {
            x.round(pot);
            for (int guest = 0; guest < 8; guest++) {
                x.sip(guest);
            }
            rounds++;
        }
        return x.pot(pot, 1) == 0 ? rounds : NONE;
    }

    /** All guess by weight; of 62, which weigh 60, a cup for 30 gets 31 and a cup for 29 gets 29. */
    private static WhisperedPots spillOne(int pot) {
        WhisperedPots x = new WhisperedPots();
        for (int guest = 0; guest < 8; guest++) {
            x.like(guest, 5, 0, 0);
        }
        x.brew(pot, 62);
        return x;
    }

    private static void bestGuest() {
        check.says("Promise 23", "Finds the guest to whom a pot should go.");
        check.says("Promise 23", "`pot`: 0 to 2");
        check.says("Promise 23", "Returns the guest who, if the pot was handed on from next guest to next guest "
                + "up to it (not at all, if it is with it), could pour then, and would spill the least, of "
                + "several the one with the fewest steps; NONE if none could pour.");
        for (int pot = 0; pot <= 2; pot++) {
            check.same("of an empty pot", new WhisperedPots().bestGuest(pot), NONE);
            check.same("all spill one", spillOne(pot).bestGuest(pot), 2 * pot);
            for (int one = 0; one < 8; one++) {
                WhisperedPots x = spillOne(pot);
                x.cup(one, 29);
                check.same("one spills nothing", x.bestGuest(pot), one);
                for (int other = 0; other < 8; other++) {
                    WhisperedPots y = spillOne(pot);
                    y.cup(one, 29);
                    y.cup(other, 29);
                    int steps = (one - 2 * pot + 8) % 8;
                    int others = (other - 2 * pot + 8) % 8;
                    check.same("two spill nothing", y.bestGuest(pot), steps < others ? one : other);
                }
            }
        }
        WhisperedPots x = new WhisperedPots();
        x.brew(0, 100);
        // Each guest trusts half and tells more: 30, 10, 4, 2, 1, 0 would be spilt.
        check.same("what is told on the way counts", x.bestGuest(0), 5);
    }

    private static void bestGuestOnceRound() {
        check.says("Promise 23", "Returns the guest who, if the pot was handed on from next guest to next guest "
                + "up to it (not at all, if it is with it), could pour then, and would spill the least, of "
                + "several the one with the fewest steps; NONE if none could pour.");
        // By its weight, 100, the guest 1 would spill 7 of the 119, and it tells 120. The guest 0 believes what it
        // is told: it would spill 89 now and nothing behind a whole round, but that is not handed on up to it.
        WhisperedPots x = fullCups(0);
        x.cup(0, 40);
        x.cup(1, 40);
        x.sip(1);
        x.sip(1);
        x.like(0, 5, 10, 0);
        x.like(1, 5, 0, 20);
        for (int guest = 2; guest < 8; guest++) {
            x.like(guest, 5, 10, 0);
        }
        x.brew(0, 119);
        check.same("spilt by the guest 0 now", x.ifPoured(0, 1), 89);
        check.same("the guest 1", x.bestGuest(0), 1);
        x.hand(0, 1);
        check.same("spilt by the guest 1", x.ifPoured(0, 1), 7);
        for (int i = 0; i < 7; i++) {
            x.hand(0, 1);
        }
        check.same("spilt by the guest 0 behind a whole round", x.ifPoured(0, 1), 0);
    }

    private static void bestGuestWithRoom() {
        check.says("Promise 23", "Returns the guest who, if the pot was handed on from next guest to next guest "
                + "up to it (not at all, if it is with it), could pour then, and would spill the least, of "
                + "several the one with the fewest steps; NONE if none could pour.");
        for (int roomy = 0; roomy <= 7; roomy++) {
            WhisperedPots x = fullCups(roomy);
            x.brew(0, 200);
            check.same("the one with room", x.bestGuest(0), roomy);
            while (x.pot(0, 0) != roomy) {
                x.hand(0, 1);
            }
            check.same("the one with room, with the pot", x.bestGuest(0), roomy);
            x.cup(roomy, 10);
            check.same("none with room", x.bestGuest(0), NONE);
        }
        check.says("Promise 23", "Throws `IndexOutOfBoundsException` if there is no such pot");
        for (int pot : NO_POTS) {
            check.refusedWhole("bestGuest of " + pot, Check.INDEX, Tables::busy, x -> x.bestGuest(pot));
        }
    }

    /** All cups hold 10 and are full, but for one that takes 11. */
    private static WhisperedPots fullCups(int roomy) {
        WhisperedPots x = new WhisperedPots();
        for (int guest = 0; guest < 8; guest++) {
            x.like(guest, 5, 10, 0);
            x.cup(guest, 10);
            x.brew(0, 10);
            x.pour(0);
            x.hand(0, 1);
        }
        x.cup(roomy, 11);
        return x;
    }

    private static void shares() {
        check.says("Promise 24", "Returns how much was spilt.");
        check.says("Promise 24", "Returns the tea spilt so far as a double, divided by all that came out of pots "
                + "by pours; 0.0 if nothing did.");
        check.sameReal("no pour", new WhisperedPots().spiltShare(), 0.0);
        WhisperedPots x = Tables.at(10, 0, 1, 200, 10);
        x.pour(0);
        check.same("a pour", x.count(5), 1);
        check.sameReal("a pour by which nothing came", x.spiltShare(), 0.0);
        WhisperedPots y = Tables.at(10, 0, 10, 0, 10);
        y.pour(0);
        check.sameReal("nothing is spilt", y.spiltShare(), 0.0);
        WhisperedPots z = Tables.at(10, 0, 11, 0, 10);
        z.pour(0);
        check.sameReal("1 of 11", z.spiltShare(), 1.0 / 11.0);
        z.brew(0, 7);
        z.brew(1, 100);
        z.sip(0);
        check.sameReal("still 1 of 11", z.spiltShare(), 1.0 / 11.0);
        z.pour(1);
        check.sameReal("71 of 111", z.spiltShare(), 71.0 / 111.0);
        WhisperedPots most = Tables.at(10, 0, 200, 0, 10);
        most.pour(0);
        check.sameReal("190 of 200", most.spiltShare(), 0.95);
        most.undo();
        check.sameReal("as it was", most.spiltShare(), 0.0);

        check.says("Promise 25", "Returns how guests trust.");
        check.says("Promise 25", "Returns the trust of all guests as a float, divided by 8.");
        WhisperedPots t = new WhisperedPots();
        check.sameReal("at first", t.meanTrust(), 5.0);
        trustAll(t, 0);
        check.sameReal("no trust", t.meanTrust(), 0.0);
        t.like(7, 5, 1, 0);
        check.sameReal("1 of 8", t.meanTrust(), 0.125);
        trustAll(t, 10);
        check.sameReal("all trust", t.meanTrust(), 10.0);
        t.like(0, 5, 9, 0);
        check.sameReal("79 of 8", t.meanTrust(), 9.875);
    }

    private static void trustAll(WhisperedPots x, int trust) {
        for (int guest = 0; guest < 8; guest++) {
            x.like(guest, 5, trust, 0);
        }
    }

    /** The hash without any overflow; its lowest 64 bits are what long arithmetic leaves of it. */
    private static long hashOf(List<Long> values) {
        BigInteger hash = BigInteger.valueOf(3779);
        for (long value : values) {
            hash = hash.multiply(BigInteger.valueOf(31)).add(BigInteger.valueOf(value));
        }
        check.same("a hash beyond a long", hash.bitLength() > 64 ? 1 : 0, 1);
        return hash.longValue();
    }

    private static void digests() {
        check.says("Promise 26", "Computes a hash of the whole state.");
        check.says("Promise 26", "Returns the hash.");
        check.says("Promise 26", "The hash starts at 3779.");
        check.says("Promise 26", "For each value v of the following list, in order, the hash becomes 31 * hash + "
                + "v, in long arithmetic with overflow.");
        check.says("Promise 26", "The values are: count(0) to count(9); for each guest its numbers 0 to 9; for "
                + "each pot its numbers 0 to 7, told of the guests 0 to 7, ifPoured with 0 to 2, emptyIn, and "
                + "bestGuest; for each tale its numbers 0 and 1; the bits of spiltShare (as "
                + "Double.doubleToLongBits); the bits of meanTrust (as Float.floatToIntBits); 1 if there is a "
                + "snapshot, otherwise 0; the length of the buffer and each of its character codes.");
        sameDigest("no tale, no snapshot, no buffer", new WhisperedPots(), 0, "");
        sameDigest("one character", Tables.with("!"), 0, "!");
        WhisperedPots kept = new WhisperedPots();
        kept.keep();
        sameDigest("a snapshot", kept, 1, "");
        WhisperedPots told = new WhisperedPots();
        told.hand(2, 1);
        sameDigest("one tale", told, 0, "");
        WhisperedPots trustless = new WhisperedPots();
        trustAll(trustless, 0);
        sameDigest("no trust", trustless, 0, "");
        sameDigest("something of everything", Tables.busy(), 1, "n0;p0;");
        WhisperedPots full = slow(0, false, 153);
        for (int pot = 0; pot < 3; pot++) {
            full.round(pot);
        }
        StringBuilder sixty = new StringBuilder();
        for (int i = 0; i < 60; i++) {
            full.append(126 - i);
            sixty.append((char) (126 - i));
        }
        sameDigest("all tales, a full buffer", full, 0, sixty.toString());
    }

    private static void sameDigest(String what, WhisperedPots x, int snapshot, String buffer) {
        check.same(what, x.digest(), hashOf(Values.of(x, snapshot, buffer)));
    }

    public static void main(String[] args) {
        ifPoured();
        emptyIn();
        bestGuest();
        bestGuestOnceRound();
        bestGuestWithRoom();
        shares();
        digests();
        check.end();
    }
}
