/** The edges of promises 5 to 8 and of what the document says of pots, each beside its sentence. */
public final class EdgesPotsTest {
    private static final int[] NO_POTS = {-1, 3, Integer.MIN_VALUE, Integer.MAX_VALUE};

    private static final Check check = new Check("EdgesPotsTest");

    private static void threePots() {
        check.says("Guests", "There are 3 pots, numbered from 0.");
        for (int pot : new int[] {0, 2}) {
            WhisperedPots x = new WhisperedPots();
            check.same("brew", x.brew(pot, 3), 3);
            check.same("fill", x.pot(pot, 1), 3);
            check.same("ifPoured", x.ifPoured(pot, 0), 3);
            check.same("emptyIn", x.emptyIn(pot), 1);
            check.same("bestGuest", x.bestGuest(pot), 2 * pot);
            check.same("round", x.round(pot), 1);
            check.same("told", x.told(pot, 2 * pot), 0);
            check.same("hand", x.hand(pot, 1), 2 * pot + 1);
            check.same("the pot 1 stays", x.pot(1, 7), 0);
        }
        for (int pot : NO_POTS) {
            check.says("Promise 5", "Throws `IndexOutOfBoundsException` if there is no such pot");
            check.refusedWhole("brew into " + pot, Check.INDEX, Tables::busy, x -> x.brew(pot, 1));
            check.says("Promise 6", "Throws `IndexOutOfBoundsException` if there is no such pot");
            check.refusedWhole("pour from " + pot, Check.INDEX, Tables::busy, x -> x.pour(pot));
            check.says("Promise 7", "Throws `IndexOutOfBoundsException` if there is no such pot");
            check.refusedWhole("hand of " + pot, Check.INDEX, Tables::busy, x -> x.hand(pot, 1));
            check.refusedWhole("hand back of " + pot, Check.INDEX, Tables::busy, x -> x.hand(pot, 0));
            check.says("Promise 8", "Throws `IndexOutOfBoundsException` if there is no such pot");
            check.refusedWhole("round of " + pot, Check.INDEX, Tables::busy, x -> x.round(pot));
        }
    }

    private static void brewWithin() {
        check.says("Promise 5", "`pot`: 0 to 2");
        check.same("brew into the first pot", new WhisperedPots().brew(0, 1), 1);
        check.same("brew into the last pot", new WhisperedPots().brew(2, 1), 1);
        check.says("Promise 5", "`tea`: 1 to 200");
        for (int tea : new int[] {1, 2, 199, 200}) {
            check.same("brew of " + tea, new WhisperedPots().brew(1, tea), tea);
        }
        check.says("Promise 5", "Brews tea into a pot; the whisper stays.");
        WhisperedPots x = Tables.at(30, 0, 0, 200, 5);
        x.brew(0, 1);
        check.same("the whisper", x.pot(0, 2), 200);
        check.same("what the guest 7 told", x.told(0, 7), 200);
        check.same("brewed", x.pot(0, 6), 1);
        check.same("brewed in all", x.count(0), 1);
        check.same("the pot beside it", x.pot(1, 1), 0);
    }

    private static void brewToTheBrim() {
        check.says("Promise 5", "Returns the fill then.");
        int[][] rows = {{1, 198, 199}, {1, 199, 200}, {199, 1, 200}, {100, 100, 200}, {100, 99, 199}};
        for (int[] row : rows) {
            WhisperedPots x = new WhisperedPots();
            x.brew(2, row[0]);
            check.same("brew of " + row[0] + " and " + row[1], x.brew(2, row[1]), row[2]);
        }
        check.says("Promise 5", "Throws `IllegalStateException` if the fill would be above 200");
        int[][] tooMuch = {{1, 200}, {2, 199}, {199, 2}, {200, 1}, {100, 101}, {200, 200}};
        for (int[] row : tooMuch) {
            Check.Maker maker = () -> {
                WhisperedPots x = new WhisperedPots();
                x.brew(2, row[0]);
                return x;
            };
            check.refusedWhole("brew of " + row[0] + " and " + row[1], Check.STATE, maker, x -> x.brew(2, row[1]));
        }
        check.refusedWhole("brew into a full pot", Check.STATE, Tables::busy, x -> x.brew(0, 1));
        check.refusedWhole("brew of 146 upon 55", Check.STATE, Tables::busy, x -> x.brew(2, 146));
        check.same("brew of 145 upon 55", Tables.busy().brew(2, 145), 200);
    }

    private static void brewRefused() {
        for (int tea : new int[] {0, 201, -1, -200, Integer.MIN_VALUE, Integer.MAX_VALUE}) {
            check.says("Promise 5", "Throws `IllegalArgumentException` if tea is out of range");
            check.refusedWhole("brew of " + tea, Check.ARGUMENT, Tables::busy, x -> x.brew(1, tea));
            check.says("Exceptions", "If several exceptions apply, the one that is named first in the throws "
                    + "clause is thrown.");
            check.refusedWhole("brew of " + tea + " into a full pot", Check.ARGUMENT, Tables::busy,
                    x -> x.brew(0, tea));
            check.refusedWhole("brew of " + tea + " into no pot", Check.INDEX, Tables::busy, x -> x.brew(3, tea));
            check.refusedWhole("brew of " + tea + " into no pot", Check.INDEX, Tables::busy, x -> x.brew(-1, tea));
        }
    }

    private static void weights() {
        check.says("Guests", "The weight of a pot is its fill, rounded down to a multiple of 20.");
        for (int weight = 0; weight <= 200; weight += 20) {
            for (int fill = weight; fill < weight + 20 && fill <= 200; fill++) {
                check.same("the weight of " + fill, Tables.at(30, 0, fill, 0, 5).pot(0, 3), weight);
            }
        }
    }

    private static void guesses() {
        check.says("Guests", "The guess of a guest of a pot is the whisper times the trust of the guest, and the "
                + "weight times (10 less the trust), together, divided by 10.");
        // The fill, the whisper, the trust, and the guess that is due.
        int[][] rows = {{0, 0, 0, 0}, {0, 0, 10, 0}, {200, 200, 0, 200}, {200, 200, 5, 200}, {200, 200, 10, 200},
            {200, 0, 0, 200}, {200, 0, 1, 180}, {200, 0, 9, 20}, {200, 0, 10, 0}, {0, 200, 0, 0}, {0, 200, 1, 20},
            {0, 200, 9, 180}, {0, 200, 10, 200}, {199, 200, 0, 180}, {199, 200, 10, 200}, {199, 199, 5, 189},
            {200, 199, 9, 199}, {200, 199, 1, 199}, {200, 199, 10, 199}, {0, 1, 10, 1}, {0, 1, 9, 0}, {0, 9, 1, 0},
            {0, 10, 1, 1}, {0, 11, 1, 1}, {0, 3, 3, 0}, {0, 5, 2, 1}, {0, 19, 1, 1}, {0, 20, 1, 2}, {19, 1, 9, 0},
            {20, 1, 9, 2}, {20, 0, 9, 2}, {39, 0, 9, 2}, {40, 0, 9, 4}, {20, 3, 3, 14}, {20, 10, 3, 17}};
        for (int[] row : rows) {
            WhisperedPots x = Tables.at(30, 0, row[0], row[1], row[2]);
            check.same("the guess at " + row[0] + ", " + row[1] + ", " + row[2], x.pot(0, 4), row[3]);
            x.hand(0, 1);
            check.same("it is told without a leaning", x.pot(0, 2), row[3]);
        }
    }

    private static void tells() {
        check.says("Guests", "When a guest hands a pot on, to the next guest or to the one before, it tells its "
                + "guess and its leaning together, but at least 0 and at most 200: that is the whisper of the "
                + "pot from then on.");
        // The fill, the whisper, the trust, the leaning, and what is told.
        int[][] rows = {{200, 0, 0, 0, 200}, {200, 0, 0, 1, 200}, {200, 0, 0, 20, 200}, {200, 0, 0, -1, 199},
            {200, 0, 0, -20, 180}, {180, 0, 0, 20, 200}, {180, 0, 0, 19, 199}, {0, 199, 10, 0, 199},
            {0, 199, 10, 1, 200}, {0, 199, 10, 2, 200}, {0, 181, 10, 19, 200}, {0, 181, 10, 20, 200},
            {0, 200, 10, 20, 200}, {20, 0, 0, -20, 0}, {20, 0, 0, -19, 1}, {0, 19, 10, -20, 0}, {0, 20, 10, -20, 0},
            {0, 21, 10, -20, 1}, {0, 0, 5, -1, 0}, {0, 0, 5, -20, 0}, {0, 0, 5, 0, 0}, {0, 0, 5, 1, 1},
            {0, 1, 10, -1, 0}, {0, 1, 10, -2, 0}};
        for (int[] row : rows) {
            for (int next = 0; next <= 1; next++) {
                WhisperedPots x = Tables.at(30, 0, row[0], row[1], row[2]);
                x.like(0, 5, row[2], row[3]);
                String named = "at " + row[0] + ", " + row[1] + ", " + row[2] + ", " + row[3];
                check.same("hand " + named, x.hand(0, next), next == 1 ? 1 : 7);
                check.same("the whisper " + named, x.pot(0, 2), row[4]);
                check.same("told " + named, x.told(0, 0), row[4]);
                check.same("the fill " + named, x.pot(0, 1), row[0]);
            }
        }
    }

    private static void handWithin() {
        check.says("Promise 7", "The guest with a pot hands it on.");
        check.says("Promise 7", "`pot`: 0 to 2");
        check.says("Promise 7", "`next`: 1 to the next guest, 0 to the one before");
        check.says("Promise 7", "Returns the guest with it then.");
        int[] next = {1, 3, 5};
        int[] before = {7, 1, 3};
        for (int pot = 0; pot < 3; pot++) {
            WhisperedPots x = new WhisperedPots();
            check.same("hand to the next", x.hand(pot, 1), next[pot]);
            check.same("with the guest", x.pot(pot, 0), next[pot]);
            WhisperedPots y = new WhisperedPots();
            check.same("hand to the one before", y.hand(pot, 0), before[pot]);
            check.same("with the guest", y.pot(pot, 0), before[pot]);
            check.same("handed on", y.pot(pot, 7), 1);
            check.same("handed on in all", y.count(7), 1);
        }
        for (int wrong : new int[] {-1, 2, Integer.MIN_VALUE, Integer.MAX_VALUE}) {
            check.says("Promise 7", "Throws `IllegalArgumentException` if next is not 0 or 1");
            check.refusedWhole("hand to " + wrong, Check.ARGUMENT, Tables::busy, x -> x.hand(0, wrong));
            check.refusedWhole("hand to " + wrong, Check.ARGUMENT, Tables::busy, x -> x.hand(2, wrong));
            check.says("Exceptions", "If several exceptions apply, the one that is named first in the throws "
                    + "clause is thrown.");
            check.refusedWhole("hand of no pot to " + wrong, Check.INDEX, Tables::busy, x -> x.hand(3, wrong));
            check.refusedWhole("hand of no pot to " + wrong, Check.INDEX, Tables::busy, x -> x.hand(-1, wrong));
        }
    }

    private static void canNotPour() {
        check.says("Guests", "A guest with a pot can not pour for the first of these reasons that is so: 1: the "
                + "pot is empty; 2: the cup has no room.");
        check.same("empty", Tables.at(10, 0, 0, 0, 5).pot(0, 5), 1);
        check.same("empty, and no room", Tables.at(10, 10, 0, 0, 5).pot(0, 5), 1);
        check.same("no room", Tables.at(10, 10, 1, 0, 5).pot(0, 5), 2);
        check.same("no room for a full pot", Tables.at(40, 40, 200, 0, 5).pot(0, 5), 2);
        check.same("1 in the pot, room for 1", Tables.at(10, 9, 1, 0, 5).pot(0, 5), 0);
        check.same("1 in the pot", Tables.at(40, 0, 1, 0, 5).pot(0, 5), 0);
        check.same("room for 1", Tables.at(40, 39, 200, 0, 5).pot(0, 5), 0);
        check.says("Guests", "The room of a cup is what it takes less what is in it.");
        WhisperedPots x = Tables.at(10, 10, 1, 0, 5);
        x.cup(0, 11);
        check.same("another cup makes room", x.pot(0, 5), 0);
        check.same("room for all of it", x.pour(0), 0);
        check.says("Promise 6", "Throws `IllegalStateException` if it can not pour");
        check.refusedWhole("pour from nothing", Check.STATE, () -> Tables.at(10, 0, 0, 0, 5), y -> y.pour(0));
        check.refusedWhole("pour without room", Check.STATE, () -> Tables.at(10, 10, 1, 0, 5), y -> y.pour(0));
        check.refusedWhole("pour of neither", Check.STATE, () -> Tables.at(10, 10, 0, 0, 5), y -> y.pour(0));
        check.refusedWhole("pour from a full pot", Check.STATE, Tables::busy, y -> y.pour(0));
        check.refusedWhole("pour from an empty pot", Check.STATE, Tables::busy, y -> y.pour(1));
    }

    private static void comes() {
        // What the cup takes, the tea in it, the fill, the guess, and what comes and is spilt.
        int[][] rows = {{10, 9, 5, 0, 5, 4}, {10, 9, 5, 1, 5, 4}, {10, 9, 5, 2, 2, 1}, {10, 9, 5, 3, 1, 0},
            {10, 9, 5, 5, 1, 0}, {10, 9, 5, 6, 0, 0}, {10, 9, 1, 0, 1, 0}, {10, 9, 200, 0, 200, 199},
            {30, 0, 50, 29, 50, 20}, {30, 0, 50, 30, 50, 20}, {30, 0, 50, 31, 48, 18}, {30, 0, 100, 101, 29, 0},
            {30, 0, 100, 100, 30, 0}, {30, 0, 100, 97, 30, 0}, {30, 0, 100, 96, 31, 1}, {30, 0, 100, 94, 31, 1},
            {30, 0, 100, 93, 32, 2}, {40, 0, 200, 200, 40, 0}, {40, 0, 200, 0, 200, 160}, {40, 0, 200, 1, 200, 160},
            {40, 0, 1, 39, 1, 0}, {40, 0, 1, 40, 1, 0}, {40, 0, 1, 41, 0, 0}, {10, 0, 1, 200, 0, 0},
            {10, 0, 19, 190, 1, 0}, {10, 0, 19, 191, 0, 0}, {30, 0, 30, 0, 30, 0}, {30, 0, 31, 0, 31, 1},
            {30, 1, 30, 0, 30, 1}, {30, 0, 29, 0, 29, 0}};
        for (int[] row : rows) {
            // The guest trusts the whisper alone, so that this is its guess.
            WhisperedPots x = Tables.at(row[0], row[1], row[2], row[3], 10);
            String named = " at " + row[0] + ", " + row[1] + ", " + row[2] + ", " + row[3];
            check.says("Guests", "When a guest pours, what comes is the room times the fill, divided by its "
                    + "guess (by 1, if the guess is 0), but at most the fill.");
            check.same("what would come" + named, x.ifPoured(0, 0), row[4]);
            check.says("Promise 6", "Returns what is spilt.");
            check.same("pour" + named, x.pour(0), row[5]);
            check.says("Guests", "The fill becomes less by that; as much as there is room for goes into the cup, "
                    + "the rest is spilt.");
            check.same("the fill" + named, x.pot(0, 1), row[2] - row[4]);
            check.same("the tea" + named, x.guest(0, 1), row[1] + row[4] - row[5]);
            check.same("spilt" + named, x.guest(0, 7), row[5]);
            check.same("came" + named, x.guest(0, 8), row[1] + row[4]);
            check.says("Guests", "If something is spilt, the shame of the guest becomes 1 more.");
            check.same("the shame" + named, x.guest(0, 5), row[5] > 0 ? 1 : 0);
            check.same("spills" + named, x.count(6), row[5] > 0 ? 1 : 0);
        }
    }

    /** The document names no other reason than an empty pot and a full cup, so these are pours. */
    private static void nothingComes() {
        check.says("Guests", "A guest with a pot can not pour for the first of these reasons that is so: 1: the "
                + "pot is empty; 2: the cup has no room.");
        // The whisper, by which the guess is over the fill of 39 while the room is 1, and the trust of 6 then.
        int[][] rows = {{57, 7}, {58, 6}, {59, 5}};
        for (int[] row : rows) {
            WhisperedPots x = Tables.at(10, 9, 39, row[0], 6);
            String named = " whispered " + row[0];
            int pours = x.count(5);
            int spills = x.count(6);
            check.same("why it can not pour" + named, x.pot(0, 5), 0);
            check.same("pour of nothing" + named, x.pour(0), 0);
            check.same("the fill" + named, x.pot(0, 1), 39);
            check.same("the tea" + named, x.guest(0, 1), 9);
            check.same("the trust" + named, x.guest(0, 3), row[1]);
            check.same("the shame" + named, x.guest(0, 5), 0);
            check.same("pours" + named, x.count(5), pours + 1);
            check.same("spills" + named, x.count(6), spills);
        }
        WhisperedPots x = Tables.at(10, 0, 1, 200, 10);
        Check.append(x, "p0;p0");
        check.same("both are done", x.run(), 2);
        check.same("pours of a run", x.count(5), 2);
        check.same("trust lost twice", x.guest(0, 3), 8);
        WhisperedPots y = Tables.at(10, 0, 1, 200, 10);
        y.like(1, 5, 10, 0);
        check.same("all guests pour in a round", y.round(0), 8);
        check.same("pours of a round", y.count(5), 8);
        check.same("the fill behind it", y.pot(0, 1), 1);
        // Each trusts it by 9 of 10 behind its pour: 180, 162, 145, 130, 117, 105, 94, 84.
        check.same("the whisper behind it", y.pot(0, 2), 84);
        check.same("one more pours", y.pour(0), 0);
    }

    private static void roundedDown() {
        check.says("Terms", "All numbers are integers, but for two shares; divisions are rounded down.");
        // Of the guess: 9, 10 and 19, 20 by 10; of what comes: 29 and 30 by 15, 29 and 30 by 10.
        check.same("9 by 10", Tables.at(30, 0, 0, 9, 1).pot(0, 4), 0);
        check.same("10 by 10", Tables.at(30, 0, 0, 10, 1).pot(0, 4), 1);
        check.same("19 by 10", Tables.at(30, 0, 0, 19, 1).pot(0, 4), 1);
        check.same("20 by 10", Tables.at(30, 0, 0, 20, 1).pot(0, 4), 2);
        check.same("29 by 15", Tables.at(29, 28, 29, 15, 10).ifPoured(0, 0), 1);
        check.same("30 by 15", Tables.at(29, 28, 30, 15, 10).ifPoured(0, 0), 2);
        check.same("29 by 10", Tables.at(29, 28, 29, 10, 10).ifPoured(0, 0), 2);
        check.same("30 by 10", Tables.at(29, 28, 30, 10, 10).ifPoured(0, 0), 3);
    }

    private static void shameGrows() {
        check.says("Guests", "If something is spilt, the shame of the guest becomes 1 more.");
        WhisperedPots x = Tables.at(10, 9, 4, 2, 10);
        check.same("two come, one is spilt", x.pour(0), 1);
        check.same("the shame", x.guest(0, 5), 1);
        x.cup(0, 11);
        check.same("one comes", x.pour(0), 0);
        check.same("the shame stays", x.guest(0, 5), 1);
        x.cup(0, 12);
        x.brew(0, 20);
        x.like(0, 5, 10, 0);
        check.same("ten come", x.pour(0), 9);
        check.same("the shame", x.guest(0, 5), 2);
        check.same("the shame of the guest 1", x.guest(1, 5), 0);
    }

    private static void trustAfterwards() {
        // The fill, the whisper, the trust, and the trust then.
        int[][] rows = {{39, 20, 5, 5}, {39, 21, 5, 6}, {39, 19, 5, 4}, {39, 58, 5, 5}, {39, 57, 5, 6},
            {39, 59, 5, 4}, {39, 39, 5, 6}, {40, 40, 5, 5}, {40, 39, 5, 4}, {40, 41, 5, 4}, {1, 0, 5, 5},
            {1, 1, 5, 6}, {1, 2, 5, 5}, {1, 3, 5, 4}, {200, 200, 5, 5}, {200, 199, 5, 4}, {199, 200, 5, 6},
            {199, 180, 5, 5}, {199, 179, 5, 4}, {200, 0, 5, 4}};
        for (int[] row : rows) {
            check.says("Guests", "Then the guest compares, with the fill ahead of the pour, the whisper and the "
                    + "weight, both as they were ahead of the pour, too: if the difference of the whisper is "
                    + "less than that of the weight, both without their signs, its trust becomes 1 more, at most "
                    + "10; if it is greater, 1 less, at least 0.");
            trustAt(row[0], row[1], row[2], row[3]);
            int step = row[3] - row[2];
            trustAt(row[0], row[1], 0, Math.max(0, step));
            trustAt(row[0], row[1], 1, 1 + step);
            trustAt(row[0], row[1], 9, 9 + step);
            trustAt(row[0], row[1], 10, Math.min(10, 10 + step));
        }
    }

    private static void trustByOwnPot() {
        check.says("Guests", "Then the guest compares, with the fill ahead of the pour, the whisper and the "
                + "weight, both as they were ahead of the pour, too: if the difference of the whisper is less "
                + "than that of the weight, both without their signs, its trust becomes 1 more, at most 10; if "
                + "it is greater, 1 less, at least 0.");
        for (int pot = 0; pot <= 2; pot++) {
            WhisperedPots x = new WhisperedPots();
            for (int other = 0; other <= 2; other++) {
                Tables.whisper(x, other, other == pot ? 57 : 59);
            }
            for (int other = 0; other <= 2; other++) {
                x.like(2 * other, 5, 5, 0);
                x.brew(other, 39);
                x.pour(other);
                check.same("the trust in the whisper of " + other, x.guest(2 * other, 3), other == pot ? 6 : 4);
            }
        }
    }

    private static void trustAt(int fill, int whisper, int trust, int due) {
        WhisperedPots x = Tables.at(30, 0, fill, whisper, trust);
        String named = " at " + fill + ", " + whisper + ", " + trust;
        check.same("the trust ahead" + named, x.guest(0, 3), trust);
        check.same("the trust told ahead" + named, x.ifPoured(0, 2), due);
        x.pour(0);
        check.same("the trust" + named, x.guest(0, 3), due);
        check.same("the trust of the guest 1" + named, x.guest(1, 3), 10);
    }

    private static void pourWithin() {
        check.says("Promise 6", "The guest with a pot pours.");
        check.says("Promise 6", "`pot`: 0 to 2");
        for (int pot = 0; pot < 3; pot++) {
            WhisperedPots x = new WhisperedPots();
            x.brew(pot, 7);
            check.same("pour", x.pour(pot), 0);
            check.same("into the cup of the guest with it", x.guest(2 * pot, 1), 7);
            check.same("pours", x.count(5), 1);
            check.same("the pot stays with it", x.pot(pot, 0), 2 * pot);
        }
    }

    private static void halfFull() {
        check.says("Rounds", "A round of a pot is 8 steps; in each step the guest with the pot pours, if it can, "
                + "and twice the tea in its cup is less than what that takes; then it hands the pot on to the "
                + "next guest.");
        // What the cup takes, the tea in it, and 1 if its guest pours.
        int[][] rows = {{30, 14, 1}, {30, 15, 0}, {30, 16, 0}, {31, 15, 1}, {31, 16, 0}, {10, 4, 1}, {10, 5, 0},
            {11, 5, 1}, {11, 6, 0}, {40, 19, 1}, {40, 20, 0}, {39, 19, 1}, {39, 20, 0}, {10, 0, 1}, {10, 10, 0}};
        for (int[] row : rows) {
            WhisperedPots x = Tables.at(row[0], row[1], 1, 0, 5);
            String named = " at " + row[1] + " of " + row[0];
            check.same("round" + named, x.round(0), 1);
            check.same("the tea of the guest 0" + named, x.guest(0, 1), row[1] + row[2]);
            check.same("the tea of the guest 1" + named, x.guest(1, 1), 1 - row[2]);
        }
        // The other pots go by the cups of the guests with them, too; the guest 0 has a full one.
        for (int pot = 1; pot <= 2; pot++) {
            WhisperedPots x = Tables.at(10, 10, 0, 0, 5);
            x.like(2 * pot, 5, 10, 0);
            x.brew(pot, 14);
            x.pour(pot);
            x.brew(pot, 1);
            check.same("round at 14 of 30", x.round(pot), 1);
            check.same("the tea of its guest", x.guest(2 * pot, 1), 15);
            x.brew(pot, 1);
            check.same("round at 15 of 30", x.round(pot), 1);
            check.same("the tea of its guest", x.guest(2 * pot, 1), 15);
            check.same("the tea of the next one", x.guest(2 * pot + 1, 1), 1);
        }
    }

    private static void rounds() {
        check.says("Promise 8", "A pot makes a round.");
        check.says("Promise 8", "`pot`: 0 to 2");
        check.says("Promise 8", "Returns how many guests pour.");
        for (int pot = 0; pot < 3; pot++) {
            WhisperedPots x = new WhisperedPots();
            check.same("round of nothing", x.round(pot), 0);
            check.same("back where it was", x.pot(pot, 0), 2 * pot);
            check.same("handed on", x.pot(pot, 7), 8);
            check.same("the first who told", x.tale(0, 0), 10 * pot);
            check.same("the last who told", x.tale(7, 0), 8 * pot + (2 * pot + 7) % 8);
            x.brew(pot, 19);
            check.same("the first one takes all", x.round(pot), 1);
            check.same("handed on all the same", x.pot(pot, 7), 16);
        }
        // A whisper of 200 that all believe: of 200, 190, 181, .. a twentieth comes, and all eight pour.
        WhisperedPots x = Tables.at(10, 0, 200, 200, 10);
        for (int guest = 0; guest < 8; guest++) {
            x.cup(guest, 10);
            x.like(guest, 5, 10, 0);
        }
        check.same("all pour", x.round(0), 8);
        check.same("pours", x.count(5), 8);
        // Each cup holds at least half then.
        check.same("none pours", x.round(0), 0);
        check.same("pours", x.count(5), 8);
    }

    private static void undoable() {
        check.says("Promise 5", "Undoable.");
        check.undoable("brew", x -> x.brew(0, 160));
        check.says("Promise 6", "Undoable.");
        check.undoable("pour", x -> x.pour(0));
        check.says("Promise 7", "Undoable.");
        check.undoable("hand", x -> x.hand(1, 1));
        check.undoable("hand back", x -> x.hand(1, 0));
        check.says("Promise 8", "Undoable, as one call.");
        check.undoable("round", x -> x.round(0));
        check.undoable("round of nothing", x -> x.round(1));
    }

    public static void main(String[] args) {
        threePots();
        brewWithin();
        brewToTheBrim();
        brewRefused();
        weights();
        guesses();
        tells();
        handWithin();
        canNotPour();
        comes();
        nothingComes();
        roundedDown();
        shameGrows();
        trustAfterwards();
        trustByOwnPot();
        pourWithin();
        halfFull();
        rounds();
        undoable();
        check.end();
    }
}
