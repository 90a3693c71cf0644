/** Promises 21 to 25: ifPoured, emptyIn, bestGuest, spiltShare, meanTrust. */
public final class WhatIfTest {
    private static final int[] NO_POTS = {-1, 3, Integer.MIN_VALUE, Integer.MAX_VALUE};

    private static final Check check = new Check("WhatIfTest");

    private static void ifPoured() {
        WhisperedPots x = new WhisperedPots();
        x.brew(0, 100);
        check.same("would come", x.ifPoured(0, 0), 60);
        check.same("would be spilt", x.ifPoured(0, 1), 30);
        check.same("trust then", x.ifPoured(0, 2), 4);
        check.same("nothing came", x.pot(0, 1), 100);
        check.same("an empty pot", x.ifPoured(1, 0), -1);
        x.pour(0);
        for (int what = 0; what < 3; what++) {
            check.same("no room", x.ifPoured(0, what), -1);
        }
        x.hand(0, 1);
        x.sip(0);
        // 40 left, a whisper of 24, a guess of 32: 30 * 40 / 32.
        check.same("would come", x.ifPoured(0, 0), 37);
        check.same("would be spilt", x.ifPoured(0, 1), 7);
        for (int what : new int[] {-1, 3, Integer.MIN_VALUE, Integer.MAX_VALUE}) {
            check.refused(x, "ifPoured's " + what, Check.ARGUMENT, () -> x.ifPoured(0, what));
            check.refused(x, "ifPoured's " + what + " of an empty pot", Check.ARGUMENT, () -> x.ifPoured(1, what));
            check.refused(x, "ifPoured's " + what + " of no pot", Check.INDEX, () -> x.ifPoured(3, what));
        }
        for (int pot : NO_POTS) {
            check.refused(x, "ifPoured of " + pot, Check.INDEX, () -> x.ifPoured(pot, 0));
        }
    }

    /** Rounds and sips by the calls themselves must come to the same. */
    private static int emptyByHand(WhisperedPots x, int pot) {
        for (int rounds = 0; rounds <= 20; rounds++) {
            if (x.pot(pot, 1) == 0) {
                return rounds;
            }
            x.round(pot);
            for (int guest = 0; guest < 8; guest++) {
                x.sip(guest);
            }
        }
        return -1;
    }

    /** All cups are small and all guests sip little, so that a full pot lasts. */
    private static WhisperedPots slow(int thirst, int fill) {
        WhisperedPots x = new WhisperedPots();
        for (int guest = 0; guest < 8; guest++) {
            x.cup(guest, 10);
            x.like(guest, thirst, 0, 0);
        }
        x.brew(0, fill);
        return x;
    }

    private static void emptyIn() {
        WhisperedPots x = new WhisperedPots();
        check.same("an empty pot", x.emptyIn(0), 0);
        x.brew(0, 1);
        check.same("one round", x.emptyIn(0), 1);
        int seen = 0;
        boolean never = false;
        for (int thirst = 1; thirst <= 20; thirst++) {
            for (int fill = 1; fill <= 200; fill += 7) {
                WhisperedPots y = slow(thirst, fill);
                int rounds = y.emptyIn(0);
                check.same("thirst " + thirst + ", fill " + fill, rounds, emptyByHand(y, 0));
                seen = Math.max(seen, rounds);
                never |= rounds == -1;
            }
        }
        check.same("more than one round was needed", seen > 1 ? 1 : 0, 1);
        for (int pot : NO_POTS) {
            check.refused(x, "emptyIn of " + pot, Check.INDEX, () -> x.emptyIn(pot));
        }
    }

    /** The last round that counts is the twentieth: a pot that one more would empty is not within 20. */
    private static void emptyInTwenty() {
        int[] seen = new int[23];
        for (int first = 1; first <= 4; first++) {
            for (int fill = 20; fill <= 200; fill++) {
                WhisperedPots x = lasting(first, fill);
                int rounds = x.emptyIn(0);
                WhisperedPots y = lasting(first, fill);
                int more = 0;
                for (int i = 0; i < 22 && y.pot(0, 1) > 0; i++) {
                    y.round(0);
                    for (int guest = 0; guest < 8; guest++) {
                        y.sip(guest);
                    }
                    more++;
                }
                boolean empty = y.pot(0, 1) == 0;
                check.same("emptyIn", rounds, empty && more <= 20 ? more : -1);
                seen[empty ? more : 0]++;
            }
        }
        check.same("a pot was empty behind just 20", seen[20] > 0 ? 1 : 0, 1);
        check.same("a pot was empty behind just 21", seen[21] > 0 ? 1 : 0, 1);
    }

    /** Cups that are near to half full, so that few pour in a round. */
    private static WhisperedPots lasting(int thirst, int fill) {
        WhisperedPots x = new WhisperedPots();
        for (int guest = 0; guest < 8; guest++) {
            x.cup(guest, 10);
            x.like(guest, guest == 0 ? thirst : 1, 10, 20);
        }
        x.brew(0, 20);
        for (int i = 0; i < 8; i++) {
            x.hand(0, 1);
        }
        x.brew(0, fill - 20 > 0 ? fill - 20 : 1);
        return x;
    }

    private static void bestGuest() {
        WhisperedPots x = new WhisperedPots();
        check.same("an empty pot", x.bestGuest(0), -1);
        x.brew(0, 100);
        // The spilt tea, step by step: 30, 10, 4, 2, 1, 0, 0, 0.
        check.same("the sixth spills nothing", x.bestGuest(0), 5);
        check.same("nothing was handed on", x.pot(0, 0), 0);
        check.same("nothing was told", x.count(8), 0);
        x.like(0, 5, 0, 0);
        check.same("the guest with it spills nothing", x.bestGuest(0), 0);
        x.like(0, 5, 5, 20);
        // The whispers go up by 20: 70, a guess of 85 (5 too much), 85, 92 (2), 92, 96 (1), 96, 98 (0).
        check.same("the leaning is told, too", x.bestGuest(0), 4);
        x.like(1, 5, 0, 0);
        check.same("by weight alone", x.bestGuest(0), 1);
    }

    private static void bestGuestWithoutRoom() {
        WhisperedPots x = new WhisperedPots();
        for (int guest = 0; guest < 8; guest++) {
            x.cup(guest, 10);
            x.like(guest, 5, 0, 0);
        }
        x.brew(1, 200);
        for (int i = 0; i < 7; i++) {
            x.pour(1);
            x.hand(1, 1);
        }
        check.same("with the guest 1", x.pot(1, 0), 1);
        x.hand(1, 1);
        check.same("only the guest 1 has room, seven steps on", x.bestGuest(1), 1);
        x.hand(1, 0);
        x.pour(1);
        check.same("none has room", x.bestGuest(1), -1);
        for (int pot : NO_POTS) {
            check.refused(x, "bestGuest of " + pot, Check.INDEX, () -> x.bestGuest(pot));
        }
    }

    private static void shares() {
        WhisperedPots x = new WhisperedPots();
        check.sameReal("no pour", x.spiltShare(), 0.0);
        x.brew(0, 100);
        check.sameReal("still no pour", x.spiltShare(), 0.0);
        x.pour(0);
        check.sameReal("30 of 60", x.spiltShare(), 0.5);
        check.sameReal("a trust less", x.meanTrust(), 39 / 8.0);
        x.hand(0, 1);
        x.pour(0);
        check.sameReal("37 of 97", x.spiltShare(), 37.0 / 97.0);
        for (int guest = 0; guest < 8; guest++) {
            x.like(guest, 5, 0, 0);
        }
        check.sameReal("no trust", x.meanTrust(), 0.0);
        for (int guest = 0; guest < 8; guest++) {
            x.like(guest, 5, 10, 0);
        }
        check.sameReal("all trust", x.meanTrust(), 10.0);
        x.like(3, 5, 9, 0);
        check.sameReal("nearly all trust", x.meanTrust(), 9.875);
    }

    public static void main(String[] args) {
        ifPoured();
        emptyIn();
        emptyInTwenty();
        bestGuest();
        bestGuestWithoutRoom();
        shares();
        check.end();
    }
}
