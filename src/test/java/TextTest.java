import java.util.regex.Matcher;
import java.util.regex.Pattern;

/** Promises 9 to 12: append, clearBuffer, firstError, run. */
public final class TextTest {
    private static final String SIXTY = "n0;n0;n0;n0;n0;n0;n0;n0;n0;n0;n0;n0;n0;n0;n0;n0;n0;n0;n0;n0;";

    /** The errands as the document tells them, once more, to be asked by another road. */
    private static final String PART = "(b[0-2]([1-9]|[1-9][0-9]|1[0-9][0-9]|200)|[pnlr][0-2]|s[0-7])";
    private static final Pattern ERRANDS = Pattern.compile(PART + "(;" + PART + ")*");

    private static final Check check = new Check("TextTest");

    private static WhisperedPots with(String text) {
        WhisperedPots x = new WhisperedPots();
        Check.append(x, text);
        return x;
    }

    private static void append() {
        WhisperedPots x = new WhisperedPots();
        check.same("append the first sign", x.append(33), 1);
        check.same("append the last sign", x.append(126), 2);
        for (int code : new int[] {32, 127, 0, -1, 33 + 65536, Integer.MIN_VALUE, Integer.MAX_VALUE}) {
            check.refused(x, "append of " + code, Check.ARGUMENT, () -> x.append(code));
        }
        check.same("append is not saved", x.count(9), 0);
        check.same("the first sign is wrong", x.firstError(), 0);
        check.same("clearBuffer", x.clearBuffer(), 2);
        check.same("clearBuffer is not saved", x.count(9), 0);
        for (int i = 0; i < 60; i++) {
            check.same("append", x.append(SIXTY.charAt(i)), i + 1);
        }
        check.refused(x, "append to 60 signs", Check.STATE, () -> x.append('n'));
        check.refused(x, "append of a wrong sign to 60 signs", Check.ARGUMENT, () -> x.append(127));
        check.same("a full buffer that could go on", x.firstError(), 60);
        check.refused(x, "run of a full buffer that must go on", Check.ARGUMENT, () -> x.run());
        check.same("clearBuffer", x.clearBuffer(), 60);
        check.same("clearBuffer again", x.clearBuffer(), 0);
        check.same("append", x.append('p'), 1);
    }

    private static void firstError() {
        String[] right = {"", "b", "b0", "b01", "b2200", "b0;".substring(0, 2), "b120", "b199", "b110;", "p0", "n1",
            "l2", "r0", "s7", "s0;", "p0;n1;l2;r0;s3;b2200", "b19;b19"};
        for (String text : right) {
            check.same("firstError of " + text, with(text).firstError(), text.length());
        }
        String[] wrong = {"x", "0", ";", "B", "b3", "bb", "b0;", "b00", "b0201", "b0300", "b02000", "b0210", "b0x",
            "p3", "p0p", "p00", "n3", "l-", "r9", "s8", "s00", "s0;;", "p0;x", "b01x", "b0200;b0201", "b0/", "b0:",
            "s/", "b0100;b0100;b030x"};
        for (String text : wrong) {
            check.same("firstError of " + text, with(text).firstError(), text.length() - 1);
        }
        check.same("the first one of two", with("b0;p").firstError(), 2);
        check.same("the first one of two", with("p0;n7;;").firstError(), 4);
        check.same("firstError changes nothing", with("p9").digest(), asked("p9").digest());
    }

    private static WhisperedPots asked(String text) {
        WhisperedPots x = with(text);
        x.firstError();
        return x;
    }

    /** Each text up to five signs of the letters that matter, against the pattern. */
    private static void allShortTexts() {
        char[] signs = {'b', 'p', 's', '0', '1', '2', '3', '8', ';'};
        int[] picked = new int[5];
        for (int number = 0; number < 59049; number++) {
            int rest = number;
            StringBuilder text = new StringBuilder();
            for (int i = 0; i < picked.length; i++) {
                text.append(signs[rest % signs.length]);
                rest /= signs.length;
            }
            againstPattern(text.toString());
        }
        for (int tea = 0; tea < 1100; tea++) {
            againstPattern("b1" + tea + ";p0");
            againstPattern("b10" + tea);
        }
    }

    private static void againstPattern(String text) {
        int due = text.length();
        for (int end = 1; end <= text.length(); end++) {
            Matcher matcher = ERRANDS.matcher(text.substring(0, end));
            if (!matcher.matches() && !matcher.hitEnd()) {
                due = end - 1;
                break;
            }
        }
        WhisperedPots x = with(text);
        check.same("firstError of " + text, x.firstError(), due);
        boolean ran;
        try {
            x.run();
            ran = true;
        } catch (IllegalArgumentException e) {
            ran = false;
        }
        check.same("run of " + text, ran ? 1 : 0, ERRANDS.matcher(text).matches() ? 1 : 0);
        check.same("length behind run of " + text, x.clearBuffer(), ran ? 0 : text.length());
    }

    private static void incomplete() {
        String[] texts = {"", "b", "b0", "p", "p0;", "b01;", "s", "p0;n", "x", "p0;x", "p0x", "b0201", "n0;;n0"};
        for (String text : texts) {
            WhisperedPots x = with(text);
            check.refused(x, "run of " + text, Check.ARGUMENT, () -> x.run());
            check.same("the buffer behind it", x.clearBuffer(), text.length());
            check.same("nothing is saved", x.count(9), 0);
        }
    }

    private static void run() {
        WhisperedPots x = with("b0100;p0;n0;l0;r1;s0");
        check.same("run", x.run(), 6);
        check.same("brewed", x.pot(0, 6), 100);
        check.same("poured", x.count(5), 1);
        check.same("handed", x.pot(0, 7), 2);
        check.same("with the guest 0 again", x.pot(0, 0), 0);
        check.same("the whisper of the guest 1", x.told(0, 1), 32);
        check.same("a round of the pot 1", x.pot(1, 7), 8);
        check.same("drunk", x.guest(0, 6), 5);
        check.same("saved as one call", x.count(9), 1);
        check.same("the buffer is cleared", x.clearBuffer(), 0);
        WhisperedPots y = new WhisperedPots();
        y.brew(0, 100);
        y.pour(0);
        y.hand(0, 1);
        y.hand(0, 0);
        y.round(1);
        y.sip(0);
        for (int i = 0; i < 5; i++) {
            y.undo();
        }
        check.same("undo of the run", x.undo(), 0);
        check.same("all is taken back", x.pot(0, 6), 0);
        y.undo();
        check.same("as if it had not been", x.digest(), y.digest());
        check.same("and as a new one", x.digest(), new WhisperedPots().digest());
    }

    private static void stopsAtTheFirst() {
        WhisperedPots x = with("b0150;b051;n0");
        check.same("the pot would run over", x.run(), 1);
        check.same("fill", x.pot(0, 1), 150);
        check.same("not handed on", x.pot(0, 7), 0);
        check.same("the buffer is cleared", x.firstError(), 0);
        Check.append(x, "b050;n2;p1;n2");
        check.same("an empty pot", x.run(), 2);
        check.same("handed on once", x.pot(2, 7), 1);
        Check.append(x, "p0;p0;n0");
        check.same("no room", x.run(), 1);
        Check.append(x, "p0");
        check.same("none is done", x.run(), 0);
        check.same("saved all the same", x.count(9), 4);
        check.same("the buffer is cleared", x.clearBuffer(), 0);
        check.same("undo of nothing", x.undo(), 3);
        check.same("pours", x.count(5), 1);
        Check.append(x, "s1;s1");
        check.same("a sip of nothing is done", x.run(), 2);
        Check.append(x, "b21");
        check.same("a last part that brews 1", x.run(), 1);
        check.same("fill", x.pot(2, 1), 1);
    }

    private static void bufferIsNoState() {
        WhisperedPots x = with("n0");
        x.run();
        Check.append(x, "n1;n1");
        x.undo();
        check.same("undo leaves the buffer", x.firstError(), 5);
        x.keep();
        x.clearBuffer();
        x.goBack();
        check.same("goBack leaves the buffer", x.clearBuffer(), 0);
        Check.append(x, "l0");
        x.goBack();
        check.same("run behind goBack", x.run(), 1);
        check.same("with the guest 7", x.pot(0, 0), 7);
    }

    public static void main(String[] args) {
        append();
        firstError();
        allShortTexts();
        incomplete();
        run();
        stopsAtTheFirst();
        bufferIsNoState();
        check.end();
    }
}
