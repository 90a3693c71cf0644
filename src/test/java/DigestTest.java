/** Promise 26: digest, put together again from the answers of the other calls. */
public final class DigestTest {
    private static final Check check = new Check("DigestTest");

    /** The object is made anew for each step, since so many calls of it are looked at. */
    private static void steps() {
        Check.On[] steps = {x -> x.brew(0, 120), x -> x.pour(0), x -> x.round(0), x -> x.keep(), DigestTest::appends,
            x -> x.goBack()};
        for (int taken = 0; taken <= steps.length; taken++) {
            WhisperedPots x = new WhisperedPots();
            for (int i = 0; i < taken; i++) {
                steps[i].answer(x);
            }
            String buffer = taken >= 5 ? "b0~!" : "";
            check.same("behind the step " + taken, x.digest(), Values.digestOf(x, taken >= 4 ? 1 : 0, buffer));
        }
    }

    private static long appends(WhisperedPots x) {
        Check.append(x, "b0~!");
        return 0;
    }

    /** The bits of both shares, for many values of them. */
    private static void bits() {
        for (int tea = 1; tea <= 200; tea++) {
            WhisperedPots x = new WhisperedPots();
            x.brew(0, tea);
            x.brew(1, 201 - tea);
            for (int i = 0; i < 8; i++) {
                x.like(i, 5, i < tea % 8 ? tea % 11 : tea / 20, 0);
            }
            x.pour(0);
            x.pour(1);
            x.hand(0, 1);
            if (x.pot(0, 5) == 0) {
                x.pour(0);
            }
            check.same("bits behind " + tea, x.digest(), Values.digestOf(x, 0, ""));
        }
        for (int sum = 0; sum <= 80; sum++) {
            WhisperedPots x = new WhisperedPots();
            for (int guest = 0; guest < 8; guest++) {
                x.like(guest, 5, sum / 8 + (guest < sum % 8 ? 1 : 0), 0);
            }
            check.same("bits of a trust of " + sum, x.digest(), Values.digestOf(x, 0, ""));
        }
    }

    public static void main(String[] args) {
        steps();
        bits();
        check.end();
    }
}
