/** Promise 26: digest, put together again from the answers of the other calls. */
public final class DigestTest {
    private static final Check check = new Check("DigestTest");

    private static long due(WhisperedPots x, boolean snapshot, String buffer) {
        long hash = 3779L;
        for (int what = 0; what <= 9; what++) {
            hash = 31 * hash + x.count(what);
        }
        for (int guest = 0; guest < 8; guest++) {
            for (int what = 0; what <= 9; what++) {
                hash = 31 * hash + x.guest(guest, what);
            }
        }
        for (int pot = 0; pot < 3; pot++) {
            for (int what = 0; what <= 7; what++) {
                hash = 31 * hash + x.pot(pot, what);
            }
            for (int guest = 0; guest < 8; guest++) {
                hash = 31 * hash + x.told(pot, guest);
            }
            for (int what = 0; what <= 2; what++) {
                hash = 31 * hash + x.ifPoured(pot, what);
            }
            hash = 31 * hash + x.emptyIn(pot);
            hash = 31 * hash + x.bestGuest(pot);
        }
        for (int rank = 0; rank < x.count(8); rank++) {
            hash = 31 * hash + x.tale(rank, 0);
            hash = 31 * hash + x.tale(rank, 1);
        }
        hash = 31 * hash + Double.doubleToLongBits(x.spiltShare());
        hash = 31 * hash + Float.floatToIntBits(x.meanTrust());
        hash = 31 * hash + (snapshot ? 1 : 0);
        hash = 31 * hash + buffer.length();
        for (int i = 0; i < buffer.length(); i++) {
            hash = 31 * hash + buffer.charAt(i);
        }
        return hash;
    }

    private static void steps() {
        WhisperedPots x = new WhisperedPots();
        check.same("new", x.digest(), due(x, false, ""));
        x.brew(0, 120);
        check.same("behind brew", x.digest(), due(x, false, ""));
        x.pour(0);
        check.same("behind pour", x.digest(), due(x, false, ""));
        x.round(0);
        check.same("behind round", x.digest(), due(x, false, ""));
        x.keep();
        check.same("behind keep", x.digest(), due(x, true, ""));
        Check.append(x, "b0~!");
        check.same("with a buffer", x.digest(), due(x, true, "b0~!"));
        x.goBack();
        check.same("behind goBack", x.digest(), due(x, true, "b0~!"));
    }

    /** The bits of both shares, for many values of them. */
    private static void bits() {
        for (int tea = 1; tea <= 200; tea++) {
            WhisperedPots x = new WhisperedPots();
            x.brew(0, tea);
            x.brew(1, 201 - tea);
            for (int i = 0; i < 8; i++) {
                x.like(i, 5, i < tea % 8 ? tea % 11 : tea / 20, 0);
            }
            x.pour(0);
            x.pour(1);
            x.hand(0, 1);
            if (x.pot(0, 5) == 0) {
                x.pour(0);
            }
            check.same("bits behind " + tea, x.digest(), due(x, false, ""));
        }
        WhisperedPots x = new WhisperedPots();
        for (int guest = 0; guest < 8; guest++) {
            x.like(guest, 5, 0, 0);
            check.same("bits of less trust", x.digest(), due(x, false, ""));
        }
        for (int guest = 0; guest < 8; guest++) {
            x.like(guest, 5, 10, 0);
            check.same("bits of more trust", x.digest(), due(x, false, ""));
        }
    }

    public static void main(String[] args) {
        steps();
        bits();
        check.end();
    }
}
