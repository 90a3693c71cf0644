/** Tables in just the state that a test asks for, reached by the calls of the document alone. */
final class Tables {
    private Tables() {
    }

    static WhisperedPots with(String text) {
        WhisperedPots x = new WhisperedPots();
        Check.append(x, text);
        return x;
    }

    /**
     * The pot 0 with this fill and this whisper is with the guest 0, who has this cup, this tea in it, this trust
     * and no leaning. All other guests trust whispers alone and sip 5.
     */
    static WhisperedPots at(int takes, int tea, int fill, int whisper, int trust) {
        WhisperedPots x = new WhisperedPots();
        x.cup(0, takes);
        pourJust(x, tea);
        whisper(x, 0, whisper);
        x.like(0, 5, trust, 0);
        if (fill > 0) {
            x.brew(0, fill);
        }
        return x;
    }

    /** The guest 0 trusts a whisper of 0 alone, so that its guess is 0 and all that is in the pot comes. */
    private static void pourJust(WhisperedPots x, int tea) {
        if (tea > 0) {
            x.like(0, 5, 10, 0);
            x.brew(0, tea);
            x.pour(0);
        }
    }

    /** Twice round the table each guest leans so far as is still to go; a guest who trusts fully tells the rest. */
    static void whisper(WhisperedPots x, int pot, int due) {
        for (int step = 0; step < 16; step++) {
            int toGo = due - x.pot(pot, 2);
            x.like(x.pot(pot, 0), 5, 10, Math.max(-20, Math.min(20, toGo)));
            x.hand(pot, 1);
        }
    }

    /**
     * Something of everything: the pot 0 is full and with a guest whose cup is full, the pot 1 is empty, the pot 2
     * holds 55; there are a snapshot, six saved states, more of which were dropped, tales, tea that was spilt and
     * drunk, and a buffer that begins errands but does not end them.
     */
    static WhisperedPots busy() {
        WhisperedPots x = new WhisperedPots();
        x.like(1, 20, 0, -20);
        x.cup(3, 10);
        x.brew(2, 110);
        x.pour(2);
        x.keep();
        x.sip(4);
        x.round(2);
        x.brew(2, 55 - x.pot(2, 1));
        x.hand(2, 0);
        x.brew(0, 40);
        x.pour(0);
        x.brew(0, 200 - x.pot(0, 1));
        Check.append(x, "n0;p0;");
        return x;
    }

    /**
     * A table with three saved states and a snapshot. The guest 0 has 20 of 30 in its cup and the pot 0 with 40 in
     * it; the pot 1 is with the guest 3, who told nothing of it, but the guest 2 did.
     */
    static WhisperedPots inUse() {
        WhisperedPots x = new WhisperedPots();
        x.brew(0, 60);
        x.keep();
        x.undo();
        Check.append(x, "b020;p0;b040");
        x.run();
        x.hand(1, 1);
        x.brew(2, 5);
        return x;
    }
}
