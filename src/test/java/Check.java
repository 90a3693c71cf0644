/** What the tests share: each of them makes one, tells it what is due, and ends with its verdict. */
final class Check {
    static final Class<?> INDEX = IndexOutOfBoundsException.class;
    static final Class<?> ARGUMENT = IllegalArgumentException.class;
    static final Class<?> STATE = IllegalStateException.class;

    /** A call that may throw. */
    interface Call {
        long answer();
    }

    /** A call of an object that is made for it. */
    interface On {
        long answer(WhisperedPots x);
    }

    /** Makes an object in the same state each time. */
    interface Maker {
        WhisperedPots make();
    }

    private final String test;
    private String sentence = "";
    private int wrong = 0;
    private int checked = 0;

    Check(String test) {
        this.test = test;
    }

    /** The checks from here on stand for this sentence of this section; QuotesTest looks it up in the document. */
    void says(String section, String words) {
        sentence = " [" + section + ": " + words + "]";
    }

    private void tellWrong(String what) {
        wrong++;
        System.out.println(test + ": " + what + sentence);
    }

    void same(String what, long got, long due) {
        checked++;
        if (got != due) {
            tellWrong(what + " answered " + got + ", due is " + due);
        }
    }

    void sameReal(String what, double got, double due) {
        checked++;
        if (Double.doubleToLongBits(got) != Double.doubleToLongBits(due)) {
            tellWrong(what + " answered " + got + ", due is " + due);
        }
    }

    private void thrown(String what, Class<?> due, Call call) {
        checked++;
        String got;
        try {
            got = "answered " + call.answer();
        } catch (RuntimeException e) {
            got = e.getClass() == due ? "" : "threw " + e.getClass().getSimpleName();
        }
        if (!got.isEmpty()) {
            tellWrong(what + " " + got + ", due is " + due.getSimpleName());
        }
    }

    /** The call must throw just this exception, and leave the object as it was. */
    void refused(WhisperedPots x, String what, Class<?> due, Call call) {
        long before = x.digest();
        thrown(what, due, call);
        same("the digest behind the refused " + what, x.digest(), before);
    }

    /** The same, and the saved states and the snapshot, which no digest shows, must be left as they were, too. */
    void refusedWhole(String what, Class<?> due, Maker maker, On call) {
        WhisperedPots x = maker.make();
        thrown(what, due, () -> call.answer(x));
        sameWhole("behind the refused " + what, x, maker.make());
    }

    /** Goes back through all saved states and to the snapshot of both. */
    void sameWhole(String what, WhisperedPots got, WhisperedPots due) {
        same("the digest " + what, got.digest(), due.digest());
        for (int i = 1; i <= 7; i++) {
            same("the undo " + i + " " + what, left(got), left(due));
            same("the digest of the undo " + i + " " + what, got.digest(), due.digest());
        }
        same("goBack " + what, back(got), back(due));
        same("the digest of goBack " + what, got.digest(), due.digest());
    }

    /** The call of a table in use must be one more saved state, and its undo must bring all back. */
    void undoable(String what, On call) {
        WhisperedPots x = Tables.inUse();
        call.answer(x);
        same("saved states behind " + what, x.count(9), 4);
        same("the undo of " + what, x.undo(), 3);
        sameWhole("behind the undo of " + what, x, Tables.inUse());
    }

    private static int left(WhisperedPots x) {
        try {
            return x.undo();
        } catch (IllegalStateException e) {
            return WhisperedPots.NONE;
        }
    }

    private static int back(WhisperedPots x) {
        try {
            return x.goBack();
        } catch (IllegalStateException e) {
            return WhisperedPots.NONE;
        }
    }

    /** Appends a text, sign by sign. */
    static void append(WhisperedPots x, String text) {
        for (int i = 0; i < text.length(); i++) {
            x.append(text.charAt(i));
        }
    }

    void end() {
        System.out.println(test + ": " + checked + " checks, " + wrong + " wrong");
        if (wrong > 0) {
            System.exit(1);
        }
    }
}
