/** Long runs of mixed calls, right and wrong ones, on the class and on the model: each answer must be the same. */
public final class ModelTest {
    private static final int RUNS = 400;
    private static final int CALLS = 500;
    private static final String SIGNS = "bpnlrs;0123456789;x";
    private static final int[] ODD = {-1, -2, 10, 11, 41, 201, 127, Integer.MIN_VALUE, Integer.MAX_VALUE};

    private static final Check check = new Check("ModelTest");

    /** The same numbers in each run of the tests. */
    private long seed;

    private int pick(int bound) {
        seed = seed * 6364136223846793005L + 1442695040888963407L;
        return (int) ((seed >>> 33) % bound);
    }

    /** Mostly from least to most, now and then beside it or far off. */
    private int number(int least, int most) {
        int chance = pick(40);
        if (chance == 0) {
            return ODD[pick(ODD.length)];
        }
        if (chance == 1) {
            return pick(2) == 0 ? least - 1 : most + 1;
        }
        if (chance < 6) {
            return pick(2) == 0 ? least : most;
        }
        return least + pick(most - least + 1);
    }

    private static long outcome(Check.Call call) {
        try {
            return call.answer();
        } catch (IndexOutOfBoundsException e) {
            return Long.MIN_VALUE;
        } catch (IllegalArgumentException e) {
            return Long.MIN_VALUE + 1;
        } catch (IllegalStateException e) {
            return Long.MIN_VALUE + 2;
        }
    }

    private static void same(String call, Check.Call got, Check.Call due) {
        check.same(call, outcome(got), outcome(due));
    }

    private void change(WhisperedPots x, Model m) {
        int guest = number(0, 7);
        int pot = number(0, 2);
        int a = number(1, 20);
        int b = number(0, 10);
        int c = number(-20, 20);
        int takes = number(10, 40);
        int tea = pick(3) == 0 ? number(1, 200) : number(1, 60);
        int next = number(0, 1);
        switch (pick(16)) {
            case 0: same("like", () -> x.like(guest, a, b, c), () -> m.like(guest, a, b, c)); break;
            case 1: same("cup", () -> x.cup(guest, takes), () -> m.cup(guest, takes)); break;
            case 2:
            case 3:
            case 4: same("sip", () -> x.sip(guest), () -> m.sip(guest)); break;
            case 5:
            case 6: same("brew", () -> x.brew(pot, tea), () -> m.brew(pot, tea)); break;
            case 7:
            case 8:
            case 9: same("pour", () -> x.pour(pot), () -> m.pour(pot)); break;
            case 10:
            case 11: same("hand", () -> x.hand(pot, next), () -> m.hand(pot, next)); break;
            case 12: same("round", () -> x.round(pot), () -> m.round(pot)); break;
            case 13: same("keep", () -> x.keep(), () -> m.keep()); break;
            case 14: same("goBack", () -> x.goBack(), () -> m.goBack()); break;
            default:
                int times = 1 + pick(3);
                for (int i = 0; i < times; i++) {
                    same("undo", () -> x.undo(), () -> m.undo());
                }
                break;
        }
    }

    private String part() {
        switch (pick(6)) {
            case 0: return "b" + pick(3) + (1 + pick(pick(2) == 0 ? 200 : 40));
            case 1: return "p" + pick(3);
            case 2: return "n" + pick(3);
            case 3: return "l" + pick(3);
            case 4: return "r" + pick(3);
            default: return "s" + pick(8);
        }
    }

    /** Returns how many calls it made of each object. */
    private int text(WhisperedPots x, Model m) {
        StringBuilder text = new StringBuilder();
        if (pick(4) > 0) {
            int parts = 1 + pick(5);
            for (int i = 0; i < parts; i++) {
                text.append(i == 0 ? "" : ";").append(part());
            }
        } else {
            text.append(part());
        }
        if (pick(5) == 0) {
            int more = 1 + pick(4);
            for (int i = 0; i < more; i++) {
                text.append(SIGNS.charAt(pick(SIGNS.length())));
            }
        }
        for (int i = 0; i < text.length(); i++) {
            int sign = text.charAt(i);
            same("append", () -> x.append(sign), () -> m.append(sign));
        }
        same("firstError of " + text, () -> x.firstError(), () -> m.firstError());
        same("run of " + text, () -> x.run(), () -> m.run());
        if (pick(3) > 0) {
            same("clearBuffer", () -> x.clearBuffer(), () -> m.clearBuffer());
        }
        int code = number(33, 126);
        if (pick(8) == 0) {
            same("append", () -> x.append(code), () -> m.append(code));
        }
        return text.length() + 4;
    }

    private void look(WhisperedPots x, Model m) {
        int guest = number(0, 7);
        int pot = number(0, 2);
        int rank = number(0, 24);
        int of = number(0, 9);
        int ofPot = number(0, 7);
        int ofPour = number(0, 2);
        int ofTale = number(0, 1);
        switch (pick(10)) {
            case 0: same("guest", () -> x.guest(guest, of), () -> m.guest(guest, of)); break;
            case 1: same("pot", () -> x.pot(pot, ofPot), () -> m.pot(pot, ofPot)); break;
            case 2: same("told", () -> x.told(pot, guest), () -> m.told(pot, guest)); break;
            case 3: same("tale", () -> x.tale(rank, ofTale), () -> m.tale(rank, ofTale)); break;
            case 4: same("count", () -> x.count(of), () -> m.count(of)); break;
            case 5: same("ifPoured", () -> x.ifPoured(pot, ofPour), () -> m.ifPoured(pot, ofPour)); break;
            case 6: same("emptyIn", () -> x.emptyIn(pot), () -> m.emptyIn(pot)); break;
            case 7: same("bestGuest", () -> x.bestGuest(pot), () -> m.bestGuest(pot)); break;
            case 8: check.sameReal("spiltShare", x.spiltShare(), m.spiltShare()); break;
            default: check.sameReal("meanTrust", x.meanTrust(), m.meanTrust()); break;
        }
    }

    private void run(int number) {
        seed = number * 1000003L + 17;
        WhisperedPots x = new WhisperedPots();
        Model m = new Model();
        check.same("the digest of a new object", x.digest(), m.digest());
        int made = 1;
        while (made < CALLS - 70) {
            int kind = pick(12);
            if (kind == 0) {
                made += text(x, m);
            } else if (kind < 4) {
                look(x, m);
                made++;
            } else {
                change(x, m);
                made += 3;
            }
            check.same("digest in the run " + number, x.digest(), m.digest());
            made++;
        }
    }

    public static void main(String[] args) {
        for (int number = 0; number < RUNS; number++) {
            new ModelTest().run(number);
        }
        check.end();
    }
}
