/** What the tests share: each of them makes one, tells it what is due, and ends with its verdict. */
final class Check {
    /** A call that may throw. */
    interface Call {
        long answer();
    }

    private final String test;
    private int wrong = 0;
    private int checked = 0;

    Check(String test) {
        this.test = test;
    }

    void same(String what, long got, long due) {
        checked++;
        if (got != due) {
            wrong++;
            System.out.println(test + ": " + what + " answered " + got + ", due is " + due);
        }
    }

    void sameReal(String what, double got, double due) {
        checked++;
        if (Double.doubleToLongBits(got) != Double.doubleToLongBits(due)) {
            wrong++;
            System.out.println(test + ": " + what + " answered " + got + ", due is " + due);
        }
    }

    /** The call must throw just this exception, and leave the object as it was. */
    void refused(WhisperedPots x, String what, Class<?> due, Call call) {
        checked++;
        long before = x.digest();
        String got;
        try {
            got = "answered " + call.answer();
        } catch (RuntimeException e) {
            got = e.getClass() == due ? "" : "threw " + e.getClass().getSimpleName();
        }
        if (!got.isEmpty()) {
            wrong++;
            System.out.println(test + ": " + what + " " + got + ", due is " + due.getSimpleName());
        }
        same("the digest behind the refused " + what, x.digest(), before);
    }

    /** Appends a text, sign by sign. */
    static void append(WhisperedPots x, String text) {
        for (int i = 0; i < text.length(); i++) {
            x.append(text.charAt(i));
        }
    }

    void end() {
        System.out.println(test + ": " + checked + " checks, " + wrong + " wrong");
        if (wrong > 0) {
            System.exit(1);
        }
    }
}
