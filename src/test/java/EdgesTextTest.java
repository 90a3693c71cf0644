/** The edges of promises 9 to 12 and of what the document says of texts, each beside its sentence. */
public final class EdgesTextTest {
    private static final String FIFTY_SEVEN = "n0;l0;s0;s1;s2;s3;s4;s5;s6;s7;p0;p1;p2;r0;r1;r2;n1;l1;n2;";
    private static final String DIGITS = "0123456789";

    private static final Check check = new Check("EdgesTextTest");

    private static void codes() {
        int length = 0;
        WhisperedPots x = new WhisperedPots();
        for (int code : new int[] {33, 34, 125, 126}) {
            check.says("Promise 9", "`code`: the character code, 33 to 126");
            length++;
            check.says("Promise 9", "Appends a character to the buffer.");
            check.says("Promise 9", "Returns the new length of the buffer.");
            check.same("append of " + code, x.append(code), length);
        }
        for (int code : new int[] {32, 127, 0, -1, -33, 128, 256 + 'p', 65536 + 'p', Integer.MIN_VALUE,
            Integer.MAX_VALUE}) {
            check.says("Promise 9", "Throws `IllegalArgumentException` if code is not 33 to 126");
            check.refusedWhole("append of " + code, Check.ARGUMENT, Tables::busy, y -> y.append(code));
            check.refusedWhole("append of " + code, Check.ARGUMENT, WhisperedPots::new, y -> y.append(code));
        }
    }

    private static void sixty() {
        check.says("Input text", "The buffer has at most 60 characters.");
        WhisperedPots x = Tables.with(FIFTY_SEVEN);
        check.same("append to 57", x.append('n'), 58);
        check.same("append to 58", x.append('2'), 59);
        check.same("append to 59", x.append(';'), 60);
        check.says("Promise 9", "Throws `IllegalStateException` if the buffer has 60 characters");
        Check.Maker full = () -> Tables.with(FIFTY_SEVEN + "n2;");
        check.refusedWhole("append to 60", Check.STATE, full, y -> y.append('n'));
        check.refusedWhole("append of 33 to 60", Check.STATE, full, y -> y.append(33));
        check.refusedWhole("append of 126 to 60", Check.STATE, full, y -> y.append(126));
        check.says("Exceptions", "If several exceptions apply, the one that is named first in the throws clause "
                + "is thrown.");
        check.refusedWhole("append of 32 to 60", Check.ARGUMENT, full, y -> y.append(32));
        check.refusedWhole("append of 127 to 60", Check.ARGUMENT, full, y -> y.append(127));
        check.says("Promise 10", "Clears the buffer.");
        check.says("Promise 10", "Returns the length that it had.");
        check.same("clearBuffer of 60", x.clearBuffer(), 60);
        check.same("clearBuffer of none", x.clearBuffer(), 0);
        check.same("append to none", x.append('n'), 1);
        check.same("clearBuffer of 1", x.clearBuffer(), 1);
        check.same("as a new one", x.digest(), new WhisperedPots().digest());
        for (int i = 1; i <= 60; i++) {
            check.same("append again", x.append('z'), i);
        }
    }

    /** Each of all characters behind the beginning: one that is not among those allowed is the first error. */
    private static void allowed(String beginning, String due) {
        for (int code = 33; code <= 126; code++) {
            WhisperedPots x = Tables.with(beginning);
            x.append(code);
            int firstError = due.indexOf(code) >= 0 ? beginning.length() + 1 : beginning.length();
            check.same("firstError of " + beginning + (char) code, x.firstError(), firstError);
        }
    }

    private static void grammar() {
        check.says("Input text", "Errands as a text are one or more parts with \";\" between them: \"b\", a pot, "
                + "0 to 2, and 1 to 200, without leading zeros (so much is brewed into it); \"p\" and a pot (the "
                + "guest with it pours); \"n\" or \"l\" and a pot (it is handed on to the next guest, or to the "
                + "one before); \"r\" and a pot (a round); or \"s\" and a guest, 0 to 7 (it sips).");
        allowed("", "bpnlrs");
        allowed("p0;", "bpnlrs");
        allowed("b0200;", "bpnlrs");
        for (String letter : new String[] {"b", "p", "n", "l", "r"}) {
            allowed(letter, "012");
            allowed("s7;" + letter, "012");
        }
        allowed("s", "01234567");
        for (String whole : new String[] {"p0", "p2", "n0", "n2", "l0", "l2", "r0", "r2", "s0", "s7"}) {
            allowed(whole, ";");
        }
        for (int pot = 0; pot <= 2; pot++) {
            allowed("b" + pot, "123456789");
            allowed("b" + pot + "1", DIGITS + ";");
            allowed("b" + pot + "2", DIGITS + ";");
            allowed("b" + pot + "3", DIGITS + ";");
            allowed("b" + pot + "9", DIGITS + ";");
            allowed("b" + pot + "10", DIGITS + ";");
            allowed("b" + pot + "19", DIGITS + ";");
            allowed("b" + pot + "20", "0;");
            allowed("b" + pot + "21", ";");
            allowed("b" + pot + "30", ";");
            allowed("b" + pot + "99", ";");
            allowed("b" + pot + "100", ";");
            allowed("b" + pot + "199", ";");
            allowed("b" + pot + "200", ";");
        }
    }

    private static void firstErrors() {
        check.says("Promise 11", "Finds the first syntax error of the buffer.");
        check.says("Promise 11", "Returns the index of the first character that is a syntax error; the length of "
                + "the buffer if there is none.");
        check.says("Input text", "The buffer is read from left to right; a character is a syntax error if no "
                + "errands as a text, of any length, begin with the characters before it and this character.");
        check.same("no character", new WhisperedPots().firstError(), 0);
        check.same("the first of two errors", Tables.with("p0!p3").firstError(), 2);
        check.same("what is right behind an error does not count", Tables.with("p3p0;p0").firstError(), 1);
        check.same("57 characters", Tables.with(FIFTY_SEVEN).firstError(), 57);
        // A part that begins at the end of the buffer has no room to end there, but some text goes on with it.
        check.same("60 that end between parts", Tables.with(FIFTY_SEVEN + "n2;").firstError(), 60);
        check.same("60 that end behind a letter", Tables.with("b012;" + FIFTY_SEVEN.substring(0, 54) + "b")
                .firstError(), 60);
        check.same("60 that end behind a pot", Tables.with("b01;" + FIFTY_SEVEN.substring(0, 54) + "b0")
                .firstError(), 60);
        check.same("an error at 59", Tables.with("b01;" + FIFTY_SEVEN.substring(0, 54) + "b3").firstError(), 59);
        check.same("an error at 58", Tables.with("b01;" + FIFTY_SEVEN.substring(0, 54) + ";b").firstError(), 58);
        check.same("an error at 0 of 60", Tables.with(";" + FIFTY_SEVEN + "n2").firstError(), 0);
    }

    private static void mustBeComplete() {
        check.says("Promise 12", "Throws `IllegalArgumentException` if the buffer is not complete errands as a "
                + "text");
        String[] texts = {"", ";", "b", "b0", "b00", "b01;", "b0201", "b3", "p", "p0;", "p0;;p0", "p3", "n", "n0;n",
            "l", "l0;l", "r", "r0;r", "s", "s8", "s0;s", "s0;", ";s0", "s0s0", "p00", "x", FIFTY_SEVEN,
            FIFTY_SEVEN + "n2;", FIFTY_SEVEN + "n3"};
        for (String text : texts) {
            check.refusedWhole("run of " + text, Check.ARGUMENT, () -> Tables.with(text), x -> x.run());
            check.refusedWhole("run of " + text, Check.ARGUMENT, () -> busyWith(text), x -> x.run());
        }
        String[] whole = {"b01", "b0200", "b29", "p0", "n2", "l0", "r1", "s0", "s7", "b0199;b01"};
        for (String text : whole) {
            WhisperedPots x = Tables.with(text);
            x.run();
            check.same("the buffer behind " + text, x.clearBuffer(), 0);
            check.same("saved by " + text, x.count(9), 1);
        }
    }

    private static WhisperedPots busyWith(String text) {
        WhisperedPots x = Tables.busy();
        x.clearBuffer();
        Check.append(x, text);
        return x;
    }

    private static int ran(WhisperedPots x, String text) {
        Check.append(x, text);
        return x.run();
    }

    private static void runs() {
        check.says("Promise 12", "Does the errands in the buffer as brew(), pour(), hand(), round() and sip() "
                + "do, one after the other, up to the first one that would throw an exception, and clears the "
                + "buffer.");
        check.says("Promise 12", "Returns how many are done.");
        check.same("one", ran(new WhisperedPots(), "s0"), 1);
        check.same("two", ran(new WhisperedPots(), "s0;s7"), 2);
        check.same("20 in 59 characters", ran(new WhisperedPots(), FIFTY_SEVEN.replace('p', 'n') + "n2"), 20);
        check.same("20 in 60 characters", ran(new WhisperedPots(), "b01;" + FIFTY_SEVEN.substring(0, 54)
                .replace('p', 'n') + "n2"), 20);
        check.same("up to the brim", ran(new WhisperedPots(), "b0199;b01;s0"), 3);
        check.same("up to the brim at once", ran(new WhisperedPots(), "b0200;s0"), 2);
        check.same("one above the brim", ran(new WhisperedPots(), "b0199;b02;s0"), 1);
        check.same("far above the brim", ran(new WhisperedPots(), "b0200;b0200;s0"), 1);
        check.same("from an empty pot", ran(new WhisperedPots(), "p0;s0"), 0);
        check.same("without room", ran(Tables.at(10, 10, 5, 0, 5), "s1;s2;p0;s3"), 2);
        check.same("room for 1", ran(Tables.at(10, 9, 5, 5, 10), "s1;s2;p0;s3"), 4);
        check.same("the last one would throw", ran(new WhisperedPots(), "s1;s2;p0"), 2);
        WhisperedPots x = new WhisperedPots();
        check.same("to the one before the guest 0, and to the next one to the guest 7", ran(x, "l0;n0;l0"), 3);
        check.same("with the guest 7", x.pot(0, 0), 7);
        check.same("none behind the first that would throw", ran(x, "p1;n1;b15"), 0);
        check.same("the pot 1 stays", x.pot(1, 0), 2);
        check.same("nothing is brewed", x.count(0), 0);
        check.same("the buffer is cleared", x.clearBuffer(), 0);
    }

    /** Each errand is its call; the undos of the calls lead to where the one undo of the run leads. */
    private static void asTheCalls() {
        check.says("Promise 12", "Does the errands in the buffer as brew(), pour(), hand(), round() and sip() "
                + "do, one after the other, up to the first one that would throw an exception, and clears the "
                + "buffer.");
        String[] texts = {"b01", "b0160", "p0", "n0", "l0", "r0", "r1", "s0", "s7", "b2195", "n2", "l2", "p2", "r2"};
        Check.On[] calls = {x -> x.brew(0, 1), x -> x.brew(0, 160), x -> x.pour(0), x -> x.hand(0, 1),
            x -> x.hand(0, 0), x -> x.round(0), x -> x.round(1), x -> x.sip(0), x -> x.sip(7), x -> x.brew(2, 195),
            x -> x.hand(2, 1), x -> x.hand(2, 0), x -> x.pour(2), x -> x.round(2)};
        for (int i = 0; i < texts.length; i++) {
            WhisperedPots x = Tables.inUse();
            check.same("run of " + texts[i], ran(x, texts[i]), 1);
            WhisperedPots y = Tables.inUse();
            calls[i].answer(y);
            check.sameWhole("behind run of " + texts[i], x, y);
        }
    }

    private static void undoable() {
        check.says("Promise 12", "Undoable, as one call, also if none is done.");
        check.undoable("run", x -> ran(x, "n0;n0;s0;r1"));
        check.undoable("run of none", x -> ran(x, "p1"));
        check.undoable("run of one", x -> ran(x, "b0160;b01;n0"));
        check.says("Undo", "Each method that is marked \"undoable\" and does not throw an exception saves the "
                + "state from before it (also if it changes nothing): all, also what is counted so far, but the "
                + "buffer, the snapshot and the saved states.");
        WhisperedPots x = Tables.inUse();
        ran(x, "n0");
        Check.append(x, "s0;");
        x.undo();
        check.same("the buffer stays", x.clearBuffer(), 3);
        check.says("Promise 9", "Appends a character to the buffer.");
        check.same("append saves nothing", x.count(9), 3);
        check.says("Promise 10", "Clears the buffer.");
        x.clearBuffer();
        check.same("clearBuffer saves nothing", x.count(9), 3);
        check.says("Promise 11", "Finds the first syntax error of the buffer.");
        x.firstError();
        check.same("firstError saves nothing", x.count(9), 3);
        check.sameWhole("behind append, clearBuffer and firstError", x, Tables.inUse());
    }

    public static void main(String[] args) {
        codes();
        sixty();
        grammar();
        firstErrors();
        mustBeComplete();
        runs();
        asTheCalls();
        undoable();
        check.end();
    }
}
