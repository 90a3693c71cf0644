/** Teapots that go round a table of guests, guessed at, poured from, handed on and whispered about. */
public final class WhisperedPots {
    /** There is nothing to return. */
    public static final int NONE = -1;

    private static final int GUESTS = 8;
    private static final int POTS = 3;
    private static final int POT_HOLDS = 200;
    private static final int CUP_LEAST = 10;
    private static final int CUP_MOST = 40;
    private static final int THIRST_MOST = 20;
    private static final int TRUST_MOST = 10;
    private static final int LEANING_MOST = 20;
    private static final int BUFFER_HOLDS = 60;
    private static final int SAVED_MOST = 6;
    private static final int ROUNDS_MOST = 20;

    private static final int TO_NEXT = 1;
    private static final int TO_ONE_BEFORE = GUESTS - 1;

    private final Table table = new Table();
    private final Table snapshot = new Table();
    /** What would be is tried on this one, so that the looks change nothing and make nothing. */
    private final Table trial = new Table();
    /** A ring: the oldest saved state stands at oldestSaved, the later ones behind it. */
    private final Table[] savedTables = new Table[SAVED_MOST];
    private final Errands errands = new Errands();
    private int oldestSaved = 0;
    private int savedStates = 0;
    private boolean hasSnapshot = false;

    public WhisperedPots() {
        for (int i = 0; i < SAVED_MOST; i++) {
            savedTables[i] = new Table();
        }
    }

    // ---- guests

    public int like(int guest, int thirst, int trust, int leaning)
            throws IndexOutOfBoundsException, IllegalArgumentException {
        requireGuest(guest);
        requireWithin(thirst, 1, THIRST_MOST);
        requireWithin(trust, 0, TRUST_MOST);
        requireWithin(leaning, -LEANING_MOST, LEANING_MOST);
        saveState();
        int before = table.row[Table.THIRST + guest];
        table.row[Table.THIRST + guest] = thirst;
        table.row[Table.TRUST + guest] = trust;
        table.row[Table.LEANING + guest] = leaning;
        return before;
    }

    public int cup(int guest, int takes)
            throws IndexOutOfBoundsException, IllegalArgumentException, IllegalStateException {
        requireGuest(guest);
        requireWithin(takes, CUP_LEAST, CUP_MOST);
        if (table.row[Table.TEA + guest] > takes) {
            throw new IllegalStateException("more tea in the old cup than the new one takes");
        }
        saveState();
        int before = table.row[Table.TAKES + guest];
        table.row[Table.TAKES + guest] = takes;
        return before;
    }

    public int sip(int guest) throws IndexOutOfBoundsException {
        requireGuest(guest);
        saveState();
        return table.drinkFrom(guest);
    }

    // ---- pots

    public int brew(int pot, int tea)
            throws IndexOutOfBoundsException, IllegalArgumentException, IllegalStateException {
        requirePot(pot);
        requireWithin(tea, 1, POT_HOLDS);
        if (!table.hasRoomFor(pot, tea)) {
            throw new IllegalStateException("the pot does not hold so much");
        }
        saveState();
        return table.brewInto(pot, tea);
    }

    public int pour(int pot) throws IndexOutOfBoundsException, IllegalStateException {
        requirePot(pot);
        if (table.whyNotPour(pot) != 0) {
            throw new IllegalStateException("the guest with the pot can not pour");
        }
        saveState();
        return table.pourFrom(pot);
    }

    public int hand(int pot, int next) throws IndexOutOfBoundsException, IllegalArgumentException {
        requirePot(pot);
        requireWithin(next, 0, 1);
        saveState();
        return table.handOn(pot, next == 1 ? TO_NEXT : TO_ONE_BEFORE);
    }

    public int round(int pot) throws IndexOutOfBoundsException {
        requirePot(pot);
        saveState();
        return table.goRound(pot);
    }

    // ---- texts, the snapshot

    public int append(int code) throws IllegalArgumentException, IllegalStateException {
        requireWithin(code, 33, 126);
        if (errands.length >= BUFFER_HOLDS) {
            throw new IllegalStateException("the buffer is full");
        }
        errands.add(code);
        return errands.length;
    }

    public int clearBuffer() {
        int before = errands.length;
        errands.length = 0;
        return before;
    }

    public int firstError() {
        return errands.firstWrong();
    }

    public int run() throws IllegalArgumentException {
        if (!errands.areComplete()) {
            throw new IllegalArgumentException("the buffer is not complete errands");
        }
        saveState();
        int done = 0;
        boolean goesOn = true;
        errands.restart();
        for (int i = 0; goesOn && i < errands.length; i++) {
            errands.read(errands.signs[i]);
            if (errands.endsPart(i)) {
                goesOn = doErrand(errands.letter, errands.place, errands.tea);
                done += goesOn ? 1 : 0;
            }
        }
        errands.length = 0;
        return done;
    }

    public int keep() {
        snapshot.copyFrom(table);
        hasSnapshot = true;
        return table.teaInPots();
    }

    public int goBack() throws IllegalStateException {
        if (!hasSnapshot) {
            throw new IllegalStateException("there is no snapshot");
        }
        saveState();
        table.copyFrom(snapshot);
        return table.teaInPots();
    }

    public int undo() throws IllegalStateException {
        if (savedStates == 0) {
            throw new IllegalStateException("there is no saved state");
        }
        savedStates--;
        table.copyFrom(savedTables[(oldestSaved + savedStates) % SAVED_MOST]);
        return savedStates;
    }

    // ---- looks; nothing is changed

    public int guest(int guest, int what) throws IndexOutOfBoundsException, IllegalArgumentException {
        requireGuest(guest);
        requireWithin(what, 0, 9);
        if (what == 9) {
            return table.potsWith(guest);
        }
        // The table's row begins with these numbers, told in this order.
        return table.row[what * GUESTS + guest];
    }

    public int pot(int pot, int what) throws IndexOutOfBoundsException, IllegalArgumentException {
        requirePot(pot);
        requireWithin(what, 0, 7);
        switch (what) {
            case 0: return table.row[Table.HOLDER + pot];
            case 1: return table.row[Table.FILL + pot];
            case 2: return table.row[Table.WHISPER + pot];
            case 3: return table.weightOf(pot);
            case 4: return table.guessOf(pot);
            case 5: return table.whyNotPour(pot);
            case 6: return table.row[Table.BREWED + pot];
            default: return table.row[Table.HANDED + pot];
        }
    }

    public int told(int pot, int guest) throws IndexOutOfBoundsException {
        requirePot(pot);
        requireGuest(guest);
        return table.row[Table.TOLD + pot * GUESTS + guest];
    }

    public int tale(int rank, int what) throws IndexOutOfBoundsException, IllegalArgumentException {
        if (rank < 0) {
            throw new IndexOutOfBoundsException("a rank below 0");
        }
        requireWithin(what, 0, 1);
        if (rank >= table.row[Table.TALES]) {
            return NONE;
        }
        int pair = table.row[Table.TALE + rank];
        return what == 0 ? pair : table.row[Table.TOLD + pair];
    }

    public int count(int what) throws IllegalArgumentException {
        requireWithin(what, 0, 9);
        switch (what) {
            case 0: return table.brewedSoFar();
            case 1: return table.sumOverGuests(Table.DRUNK);
            case 2: return table.sumOverGuests(Table.SPILT);
            case 3: return table.teaInPots() + table.sumOverGuests(Table.TEA);
            case 4: return table.teaByAccounts();
            case 5: return table.row[Table.POURS];
            case 6: return table.row[Table.SPILLS];
            case 7: return table.handedSoFar();
            case 8: return table.row[Table.TALES];
            default: return savedStates;
        }
    }

    // ---- what would be; nothing is changed

    public int ifPoured(int pot, int what) throws IndexOutOfBoundsException, IllegalArgumentException {
        requirePot(pot);
        requireWithin(what, 0, 2);
        if (table.whyNotPour(pot) != 0) {
            return NONE;
        }
        switch (what) {
            case 0: return table.comesFrom(pot);
            case 1: return table.wouldSpillFrom(pot);
            default: return table.trustAfter(pot);
        }
    }

    public int emptyIn(int pot) throws IndexOutOfBoundsException {
        requirePot(pot);
        trial.copyFrom(table);
        for (int rounds = 0; rounds <= ROUNDS_MOST; rounds++) {
            if (trial.row[Table.FILL + pot] == 0) {
                return rounds;
            }
            trial.goRound(pot);
            trial.allDrink();
        }
        return NONE;
    }

    public int bestGuest(int pot) throws IndexOutOfBoundsException {
        requirePot(pot);
        trial.copyFrom(table);
        int best = NONE;
        int least = 0;
        for (int steps = 0; steps < GUESTS; steps++) {
            if (trial.whyNotPour(pot) == 0) {
                int spills = trial.wouldSpillFrom(pot);
                if (best == NONE || spills < least) {
                    best = trial.row[Table.HOLDER + pot];
                    least = spills;
                }
            }
            trial.handOn(pot, TO_NEXT);
        }
        return best;
    }

    public double spiltShare() {
        int came = table.sumOverGuests(Table.CAME);
        if (came <= 0) {
            return 0.0;
        }
        return (double) table.sumOverGuests(Table.SPILT) / (double) came;
    }

    public float meanTrust() {
        return (float) table.sumOverGuests(Table.TRUST) / 8.0f;
    }

    public long digest() {
        long hash = 3779L;
        for (int what = 0; what <= 9; what++) {
            hash = 31L * hash + count(what);
        }
        for (int guest = 0; guest < GUESTS; guest++) {
            for (int what = 0; what <= 9; what++) {
                hash = 31L * hash + guest(guest, what);
            }
        }
        for (int pot = 0; pot < POTS; pot++) {
            for (int what = 0; what <= 7; what++) {
                hash = 31L * hash + pot(pot, what);
            }
            for (int guest = 0; guest < GUESTS; guest++) {
                hash = 31L * hash + told(pot, guest);
            }
            for (int what = 0; what <= 2; what++) {
                hash = 31L * hash + ifPoured(pot, what);
            }
            hash = 31L * hash + emptyIn(pot);
            hash = 31L * hash + bestGuest(pot);
        }
        for (int rank = 0; rank < table.row[Table.TALES]; rank++) {
            hash = 31L * hash + tale(rank, 0);
            hash = 31L * hash + tale(rank, 1);
        }
        hash = 31L * hash + bitsOf(spiltShare(), 52, 1023L);
        hash = 31L * hash + bitsOf(meanTrust(), 23, 127L);
        hash = 31L * hash + (hasSnapshot ? 1 : 0);
        hash = 31L * hash + errands.length;
        for (int i = 0; i < errands.length; i++) {
            hash = 31L * hash + errands.signs[i];
        }
        return hash;
    }

    // ---- what the calls share

    private static void requireGuest(int guest) {
        if (guest < 0 || guest >= GUESTS) {
            throw new IndexOutOfBoundsException("no such guest");
        }
    }

    private static void requirePot(int pot) {
        if (pot < 0 || pot >= POTS) {
            throw new IndexOutOfBoundsException("no such pot");
        }
    }

    private static void requireWithin(int value, int least, int most) {
        if (value < least || value > most) {
            throw new IllegalArgumentException("out of range");
        }
    }

    private void saveState() {
        if (savedStates == SAVED_MOST) {
            oldestSaved = (oldestSaved + 1) % SAVED_MOST;
            savedStates--;
        }
        savedTables[(oldestSaved + savedStates) % SAVED_MOST].copyFrom(table);
        savedStates++;
    }

    /** Does one errand; false, and nothing done, if the call that it stands for would throw. */
    private boolean doErrand(int letter, int place, int tea) {
        switch (letter) {
            case 'b':
                if (!table.hasRoomFor(place, tea)) {
                    return false;
                }
                table.brewInto(place, tea);
                return true;
            case 'p':
                if (table.whyNotPour(place) != 0) {
                    return false;
                }
                table.pourFrom(place);
                return true;
            case 'n':
                table.handOn(place, TO_NEXT);
                return true;
            case 'l':
                table.handOn(place, TO_ONE_BEFORE);
                return true;
            case 'r':
                table.goRound(place);
                return true;
            default:
                table.drinkFrom(place);
                return true;
        }
    }

    /** The IEEE bits of a value of 0 or more; the library that would tell them is not to be used. */
    private static long bitsOf(double value, int fractionBits, long bias) {
        if (!(value > 0.0)) {
            return 0L;
        }
        double scaled = value;
        long exponent = bias;
        for (int i = 0; i < 1100 && scaled >= 2.0; i++) {
            scaled = scaled / 2.0;
            exponent++;
        }
        for (int i = 0; i < 1100 && scaled < 1.0; i++) {
            scaled = scaled * 2.0;
            exponent--;
        }
        double fraction = (scaled - 1.0) * (double) (1L << fractionBits);
        return (exponent << fractionBits) + (long) fraction;
    }

    /** All that undo() restores, in one row, so that a state is copied at once. */
    private static final class Table {
        // The numbers of the guests stand in the order in which guest() tells them.
        static final int TAKES = 0;
        static final int TEA = TAKES + GUESTS;
        static final int THIRST = TEA + GUESTS;
        static final int TRUST = THIRST + GUESTS;
        static final int LEANING = TRUST + GUESTS;
        static final int SHAME = LEANING + GUESTS;
        static final int DRUNK = SHAME + GUESTS;
        static final int SPILT = DRUNK + GUESTS;
        static final int CAME = SPILT + GUESTS;
        static final int HOLDER = CAME + GUESTS;
        static final int FILL = HOLDER + POTS;
        static final int WHISPER = FILL + POTS;
        static final int BREWED = WHISPER + POTS;
        static final int HANDED = BREWED + POTS;
        /** What was told last, by 8 times the pot and the guest; NONE if nothing was. */
        static final int TOLD = HANDED + POTS;
        /** The pairs of which something was told, 8 times the pot and the guest, the first one first. */
        static final int TALE = TOLD + POTS * GUESTS;
        static final int TALES = TALE + POTS * GUESTS;
        static final int POURS = TALES + 1;
        static final int SPILLS = POURS + 1;
        static final int ROW_LENGTH = SPILLS + 1;

        final int[] row = new int[ROW_LENGTH];

        Table() {
            for (int guest = 0; guest < GUESTS; guest++) {
                row[TAKES + guest] = 30;
                row[THIRST + guest] = 5;
                row[TRUST + guest] = 5;
            }
            for (int pot = 0; pot < POTS; pot++) {
                row[HOLDER + pot] = 2 * pot;
            }
            for (int pair = 0; pair < POTS * GUESTS; pair++) {
                row[TOLD + pair] = NONE;
            }
        }

        void copyFrom(Table other) {
            System.arraycopy(other.row, 0, row, 0, ROW_LENGTH);
        }

        // -- what can be told

        int weightOf(int pot) {
            int fill = row[FILL + pot];
            return fill - fill % 20;
        }

        /** The guess of the guest with the pot. */
        int guessOf(int pot) {
            int trust = row[TRUST + row[HOLDER + pot]];
            return (row[WHISPER + pot] * trust + weightOf(pot) * (TRUST_MOST - trust)) / TRUST_MOST;
        }

        int roomOf(int guest) {
            return row[TAKES + guest] - row[TEA + guest];
        }

        boolean hasRoomFor(int pot, int tea) {
            return row[FILL + pot] + tea <= POT_HOLDS;
        }

        /** 0 if the guest with the pot can pour. */
        int whyNotPour(int pot) {
            if (row[FILL + pot] == 0) {
                return 1;
            }
            if (roomOf(row[HOLDER + pot]) == 0) {
                return 2;
            }
            return 0;
        }

        int comesFrom(int pot) {
            int fill = row[FILL + pot];
            int guess = guessOf(pot);
            int divisor = guess > 0 ? guess : 1;
            int comes = roomOf(row[HOLDER + pot]) * fill / divisor;
            return comes < fill ? comes : fill;
        }

        int wouldSpillFrom(int pot) {
            int over = comesFrom(pot) - roomOf(row[HOLDER + pot]);
            return over > 0 ? over : 0;
        }

        /** The trust of the guest with the pot, if it poured. */
        int trustAfter(int pot) {
            int fill = row[FILL + pot];
            int trust = row[TRUST + row[HOLDER + pot]];
            int whisperOff = Math.abs(row[WHISPER + pot] - fill);
            int weightOff = Math.abs(weightOf(pot) - fill);
            if (whisperOff < weightOff) {
                return trust < TRUST_MOST ? trust + 1 : trust;
            }
            if (whisperOff > weightOff) {
                return trust > 0 ? trust - 1 : trust;
            }
            return trust;
        }

        int potsWith(int guest) {
            int mask = 0;
            for (int pot = 0; pot < POTS; pot++) {
                if (row[HOLDER + pot] == guest) {
                    mask |= 1 << pot;
                }
            }
            return mask;
        }

        int sumOverGuests(int first) {
            return sumOf(first, GUESTS);
        }

        int teaInPots() {
            return sumOf(FILL, POTS);
        }

        int brewedSoFar() {
            return sumOf(BREWED, POTS);
        }

        int handedSoFar() {
            return sumOf(HANDED, POTS);
        }

        int teaByAccounts() {
            return brewedSoFar() - sumOverGuests(DRUNK) - sumOverGuests(SPILT);
        }

        private int sumOf(int first, int many) {
            int sum = 0;
            for (int i = 0; i < many; i++) {
                sum += row[first + i];
            }
            return sum;
        }

        // -- what can be done

        int drinkFrom(int guest) {
            int drunk = Math.min(row[THIRST + guest], row[TEA + guest]);
            row[TEA + guest] -= drunk;
            row[DRUNK + guest] += drunk;
            return drunk;
        }

        void allDrink() {
            for (int guest = 0; guest < GUESTS; guest++) {
                drinkFrom(guest);
            }
        }

        int brewInto(int pot, int tea) {
            row[FILL + pot] += tea;
            row[BREWED + pot] += tea;
            return row[FILL + pot];
        }

        /** Returns what is spilt. The guest must be able to pour. */
        int pourFrom(int pot) {
            int guest = row[HOLDER + pot];
            int comes = comesFrom(pot);
            int over = Math.max(comes - roomOf(guest), 0);
            // The guest compares with the fill ahead of the pour, so its trust changes first.
            row[TRUST + guest] = trustAfter(pot);
            row[FILL + pot] -= comes;
            row[TEA + guest] += comes - over;
            row[SPILT + guest] += over;
            row[CAME + guest] += comes;
            row[POURS]++;
            if (over > 0) {
                row[SHAME + guest]++;
                row[SPILLS]++;
            }
            return over;
        }

        /** Hands a pot so many places on; 7 places are one place back. Returns the guest with it then. */
        int handOn(int pot, int places) {
            int guest = row[HOLDER + pot];
            int whisper = guessOf(pot) + row[LEANING + guest];
            whisper = Math.max(0, Math.min(POT_HOLDS, whisper));
            int pair = pot * GUESTS + guest;
            // There are no more pairs than that, but an index that grows is looked at where it is used.
            if (row[TOLD + pair] == NONE && row[TALES] < POTS * GUESTS) {
                row[TALE + row[TALES]] = pair;
                row[TALES]++;
            }
            row[TOLD + pair] = whisper;
            row[WHISPER + pot] = whisper;
            row[HANDED + pot]++;
            row[HOLDER + pot] = (guest + places) % GUESTS;
            return row[HOLDER + pot];
        }

        /** Returns how many guests pour. */
        int goRound(int pot) {
            int poured = 0;
            for (int step = 0; step < GUESTS; step++) {
                int guest = row[HOLDER + pot];
                boolean wants = 2 * row[TEA + guest] < row[TAKES + guest];
                if (wants && whyNotPour(pot) == 0) {
                    pourFrom(pot);
                    poured++;
                }
                handOn(pot, TO_NEXT);
            }
            return poured;
        }
    }

    /** The buffer, and an automaton that reads errands from it, one sign after the other. */
    private static final class Errands {
        private static final int AT_LETTER = 0;
        private static final int AT_PLACE = 1;
        private static final int AT_TEA = 2;
        private static final int AT_END = 3;

        final int[] signs = new int[BUFFER_HOLDS];
        int length = 0;

        private int at = AT_LETTER;
        /** The part that is read, or that has just been read: its letter, its pot or guest, its tea. */
        int letter = 0;
        int place = 0;
        int tea = 0;

        /** The buffer must not be full. */
        void add(int sign) {
            signs[length] = sign;
            length++;
        }

        void restart() {
            at = AT_LETTER;
        }

        int firstWrong() {
            restart();
            for (int i = 0; i < length; i++) {
                if (!read(signs[i])) {
                    return i;
                }
            }
            return length;
        }

        boolean areComplete() {
            if (firstWrong() < length) {
                return false;
            }
            return at == AT_END || at == AT_TEA && tea > 0;
        }

        boolean endsPart(int index) {
            return signs[index] == ';' || index == length - 1;
        }

        /** Reads one sign more; false, and nothing read, if it is a syntax error. */
        boolean read(int sign) {
            switch (at) {
                case AT_LETTER: return readLetter(sign);
                case AT_PLACE: return readPlace(sign);
                case AT_TEA: return readTea(sign);
                default: return readSeparator(sign);
            }
        }

        private boolean readLetter(int sign) {
            switch (sign) {
                case 'b':
                case 'p':
                case 'n':
                case 'l':
                case 'r':
                case 's':
                    letter = sign;
                    tea = 0;
                    at = AT_PLACE;
                    return true;
                default:
                    return false;
            }
        }

        private boolean readPlace(int sign) {
            int digit = sign - '0';
            int places = letter == 's' ? GUESTS : POTS;
            if (digit < 0 || digit >= places) {
                return false;
            }
            place = digit;
            at = letter == 'b' ? AT_TEA : AT_END;
            return true;
        }

        private boolean readTea(int sign) {
            if (sign == ';' && tea > 0) {
                return readSeparator(sign);
            }
            int digit = sign - '0';
            if (digit < 0 || digit > 9) {
                return false;
            }
            // A leading zero leaves the number at 0, which is too little, so this refuses it as well.
            int more = 10 * tea + digit;
            if (more < 1 || more > POT_HOLDS) {
                return false;
            }
            tea = more;
            return true;
        }

        private boolean readSeparator(int sign) {
            if (sign != ';') {
                return false;
            }
            at = AT_LETTER;
            return true;
        }
    }
}
