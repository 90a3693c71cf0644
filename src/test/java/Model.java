import java.util.ArrayList;
import java.util.LinkedHashMap;
import java.util.List;
import java.util.Map;
import java.util.regex.Matcher;
import java.util.regex.Pattern;

/**
 * The document once more, in the plainest form and by other roads than the class: objects for guests and pots,
 * states as copies of them, a pattern for the texts. The tests hold the class against it.
 */
final class Model {
    static final int NONE = -1;
    private static final String PART = "(b[0-2]([1-9]|[1-9][0-9]|1[0-9][0-9]|200)|[pnlr][0-2]|s[0-7])";
    private static final Pattern ERRANDS = Pattern.compile(PART + "(;" + PART + ")*");

    private static final class Guest {
        int takes = 30, tea, thirst = 5, trust = 5, leaning, shame, drank, spilt, came;

        Guest copy() {
            Guest g = new Guest();
            g.takes = takes;
            g.tea = tea;
            g.thirst = thirst;
            g.trust = trust;
            g.leaning = leaning;
            g.shame = shame;
            g.drank = drank;
            g.spilt = spilt;
            g.came = came;
            return g;
        }
    }

    private static final class Pot {
        int with, fill, whisper, brewed, handed;

        Pot copy() {
            Pot p = new Pot();
            p.with = with;
            p.fill = fill;
            p.whisper = whisper;
            p.brewed = brewed;
            p.handed = handed;
            return p;
        }

        int weight() {
            return fill / 20 * 20;
        }
    }

    private static final class State {
        final List<Guest> guests = new ArrayList<>();
        final List<Pot> pots = new ArrayList<>();
        final Map<Integer, Integer> told = new LinkedHashMap<>();
        int pours, spills;

        State copy() {
            State s = new State();
            for (Guest g : guests) {
                s.guests.add(g.copy());
            }
            for (Pot p : pots) {
                s.pots.add(p.copy());
            }
            s.told.putAll(told);
            s.pours = pours;
            s.spills = spills;
            return s;
        }

        Guest holder(Pot p) {
            return guests.get(p.with);
        }

        int guess(Pot p) {
            int trust = holder(p).trust;
            return Math.floorDiv(p.whisper * trust + p.weight() * (10 - trust), 10);
        }

        int reason(Pot p) {
            return p.fill == 0 ? 1 : holder(p).takes <= holder(p).tea ? 2 : 0;
        }

        int pour(Pot p) {
            Guest g = holder(p);
            int room = g.takes - g.tea;
            int ahead = p.fill;
            int byWhisper = Math.abs(p.whisper - ahead);
            int byWeight = Math.abs(p.weight() - ahead);
            int comes = Math.min(ahead, room * ahead / Math.max(1, guess(p)));
            int intoCup = Math.min(room, comes);
            p.fill -= comes;
            g.tea += intoCup;
            g.came += comes;
            g.spilt += comes - intoCup;
            pours++;
            if (comes > intoCup) {
                g.shame++;
                spills++;
            }
            if (byWhisper < byWeight) {
                g.trust = Math.min(10, g.trust + 1);
            } else if (byWhisper > byWeight) {
                g.trust = Math.max(0, g.trust - 1);
            }
            return comes - intoCup;
        }

        int hand(Pot p, int by) {
            int pair = 8 * pots.indexOf(p) + p.with;
            int whisper = Math.min(200, Math.max(0, guess(p) + holder(p).leaning));
            told.put(pair, whisper);
            p.whisper = whisper;
            p.handed++;
            p.with = Math.floorMod(p.with + by, 8);
            return p.with;
        }

        int round(Pot p) {
            int poured = 0;
            for (int i = 0; i < 8; i++) {
                if (reason(p) == 0 && 2 * holder(p).tea < holder(p).takes) {
                    pour(p);
                    poured++;
                }
                hand(p, 1);
            }
            return poured;
        }

        int sip(int guest) {
            Guest g = guests.get(guest);
            int drunk = g.tea < g.thirst ? g.tea : g.thirst;
            g.tea -= drunk;
            g.drank += drunk;
            return drunk;
        }

        int teaInPots() {
            int sum = 0;
            for (Pot p : pots) {
                sum += p.fill;
            }
            return sum;
        }
    }

    private State now = new State();
    private State snapshot;
    private final List<State> saved = new ArrayList<>();
    private String buffer = "";

    Model() {
        for (int i = 0; i < 8; i++) {
            now.guests.add(new Guest());
        }
        for (int i = 0; i < 3; i++) {
            Pot p = new Pot();
            p.with = 2 * i;
            now.pots.add(p);
        }
    }

    private static void index(boolean right) {
        if (!right) {
            throw new IndexOutOfBoundsException();
        }
    }

    private static void argument(boolean right) {
        if (!right) {
            throw new IllegalArgumentException();
        }
    }

    private static void state(boolean right) {
        if (!right) {
            throw new IllegalStateException();
        }
    }

    private static boolean in(int value, int least, int most) {
        return value >= least && value <= most;
    }

    private void save() {
        saved.add(now.copy());
        if (saved.size() > 6) {
            saved.remove(0);
        }
    }

    int like(int guest, int thirst, int trust, int leaning) {
        index(in(guest, 0, 7));
        argument(in(thirst, 1, 20) && in(trust, 0, 10) && in(leaning, -20, 20));
        save();
        Guest g = now.guests.get(guest);
        int before = g.thirst;
        g.thirst = thirst;
        g.trust = trust;
        g.leaning = leaning;
        return before;
    }

    int cup(int guest, int takes) {
        index(in(guest, 0, 7));
        argument(in(takes, 10, 40));
        Guest old = now.guests.get(guest);
        state(old.tea <= takes);
        save();
        int before = old.takes;
        old.takes = takes;
        return before;
    }

    int sip(int guest) {
        index(in(guest, 0, 7));
        save();
        return now.sip(guest);
    }

    int brew(int pot, int tea) {
        index(in(pot, 0, 2));
        argument(in(tea, 1, 200));
        state(now.pots.get(pot).fill + tea <= 200);
        save();
        return brewed(pot, tea);
    }

    private int brewed(int pot, int tea) {
        Pot p = now.pots.get(pot);
        p.fill += tea;
        p.brewed += tea;
        return p.fill;
    }

    int pour(int pot) {
        index(in(pot, 0, 2));
        state(now.reason(now.pots.get(pot)) == 0);
        save();
        return now.pour(now.pots.get(pot));
    }

    int hand(int pot, int next) {
        index(in(pot, 0, 2));
        argument(in(next, 0, 1));
        save();
        return now.hand(now.pots.get(pot), next == 1 ? 1 : -1);
    }

    int round(int pot) {
        index(in(pot, 0, 2));
        save();
        return now.round(now.pots.get(pot));
    }

    int append(int code) {
        argument(in(code, 33, 126));
        state(buffer.length() < 60);
        buffer += (char) code;
        return buffer.length();
    }

    int clearBuffer() {
        int length = buffer.length();
        buffer = "";
        return length;
    }

    int firstError() {
        for (int end = 1; end <= buffer.length(); end++) {
            Matcher matcher = ERRANDS.matcher(buffer.substring(0, end));
            if (!matcher.matches() && !matcher.hitEnd()) {
                return end - 1;
            }
        }
        return buffer.length();
    }

    int run() {
        argument(ERRANDS.matcher(buffer).matches());
        save();
        int done = 0;
        for (String part : buffer.split(";")) {
            if (!done(part)) {
                break;
            }
            done++;
        }
        buffer = "";
        return done;
    }

    private boolean done(String part) {
        int number = part.charAt(1) - '0';
        char letter = part.charAt(0);
        if (letter == 's') {
            now.sip(number);
            return true;
        }
        Pot p = now.pots.get(number);
        if (letter == 'b') {
            int tea = Integer.parseInt(part.substring(2));
            if (p.fill + tea > 200) {
                return false;
            }
            brewed(number, tea);
        } else if (letter == 'p') {
            if (now.reason(p) != 0) {
                return false;
            }
            now.pour(p);
        } else if (letter == 'r') {
            now.round(p);
        } else {
            now.hand(p, letter == 'n' ? 1 : -1);
        }
        return true;
    }

    int keep() {
        snapshot = now.copy();
        return now.teaInPots();
    }

    int goBack() {
        state(snapshot != null);
        save();
        now = snapshot.copy();
        return now.teaInPots();
    }

    int undo() {
        state(!saved.isEmpty());
        now = saved.remove(saved.size() - 1);
        return saved.size();
    }

    int guest(int guest, int what) {
        index(in(guest, 0, 7));
        argument(in(what, 0, 9));
        Guest g = now.guests.get(guest);
        int mask = 0;
        for (int p = 2; p >= 0; p--) {
            mask = 2 * mask + (now.pots.get(p).with == guest ? 1 : 0);
        }
        int[] numbers = {g.takes, g.tea, g.thirst, g.trust, g.leaning, g.shame, g.drank, g.spilt, g.came, mask};
        return numbers[what];
    }

    int pot(int pot, int what) {
        index(in(pot, 0, 2));
        argument(in(what, 0, 7));
        Pot p = now.pots.get(pot);
        int[] numbers = {p.with, p.fill, p.whisper, p.weight(), now.guess(p), now.reason(p), p.brewed, p.handed};
        return numbers[what];
    }

    int told(int pot, int guest) {
        index(in(pot, 0, 2) && in(guest, 0, 7));
        return now.told.getOrDefault(8 * pot + guest, NONE);
    }

    int tale(int rank, int what) {
        index(rank >= 0);
        argument(in(what, 0, 1));
        List<Integer> pairs = new ArrayList<>(now.told.keySet());
        if (rank >= pairs.size()) {
            return NONE;
        }
        return what == 0 ? pairs.get(rank) : now.told.get(pairs.get(rank));
    }

    int count(int what) {
        argument(in(what, 0, 9));
        int brewed = 0, drunk = 0, spilt = 0, inCups = 0, handed = 0;
        for (Pot p : now.pots) {
            brewed += p.brewed;
            handed += p.handed;
        }
        for (Guest g : now.guests) {
            drunk += g.drank;
            spilt += g.spilt;
            inCups += g.tea;
        }
        int[] numbers = {brewed, drunk, spilt, now.teaInPots() + inCups, brewed - (drunk + spilt), now.pours,
            now.spills, handed, now.told.size(), saved.size()};
        return numbers[what];
    }

    int ifPoured(int pot, int what) {
        index(in(pot, 0, 2));
        argument(in(what, 0, 2));
        State then = now.copy();
        Pot p = then.pots.get(pot);
        if (then.reason(p) != 0) {
            return NONE;
        }
        int spilt = then.pour(p);
        int[] numbers = {now.pots.get(pot).fill - p.fill, spilt, then.holder(p).trust};
        return numbers[what];
    }

    int emptyIn(int pot) {
        index(in(pot, 0, 2));
        State then = now.copy();
        int rounds = 0;
        while (then.pots.get(pot).fill > 0) {
            if (rounds == 20) {
                return NONE;
            }
            then.round(then.pots.get(pot));
            for (int g = 0; g < 8; g++) {
                then.sip(g);
            }
            rounds++;
        }
        return rounds;
    }

    int bestGuest(int pot) {
        index(in(pot, 0, 2));
        int best = NONE;
        int least = Integer.MAX_VALUE;
        for (int steps = 0; steps < 8; steps++) {
            State then = now.copy();
            Pot p = then.pots.get(pot);
            for (int i = 0; i < steps; i++) {
                then.hand(p, 1);
            }
            int guest = p.with;
            if (then.reason(p) == 0) {
                int spilt = then.pour(p);
                if (spilt < least) {
                    least = spilt;
                    best = guest;
                }
            }
        }
        return best;
    }

    double spiltShare() {
        int came = 0;
        for (Guest g : now.guests) {
            came += g.came;
        }
        return came == 0 ? 0.0 : (double) count(2) / came;
    }

    float meanTrust() {
        float sum = 0;
        for (Guest g : now.guests) {
            sum += g.trust;
        }
        return sum / 8;
    }

    long digest() {
        List<Long> values = new ArrayList<>();
        for (int what = 0; what < 10; what++) {
            values.add((long) count(what));
        }
        for (int g = 0; g < 8; g++) {
            for (int what = 0; what < 10; what++) {
                values.add((long) guest(g, what));
            }
        }
        for (int p = 0; p < 3; p++) {
            for (int what = 0; what < 8; what++) {
                values.add((long) pot(p, what));
            }
            for (int g = 0; g < 8; g++) {
                values.add((long) told(p, g));
            }
            for (int what = 0; what < 3; what++) {
                values.add((long) ifPoured(p, what));
            }
            values.add((long) emptyIn(p));
            values.add((long) bestGuest(p));
        }
        for (Map.Entry<Integer, Integer> tale : now.told.entrySet()) {
            values.add((long) tale.getKey());
            values.add((long) tale.getValue());
        }
        values.add(Double.doubleToLongBits(spiltShare()));
        values.add((long) Float.floatToIntBits(meanTrust()));
        values.add(snapshot == null ? 0L : 1L);
        values.add((long) buffer.length());
        for (char sign : buffer.toCharArray()) {
            values.add((long) sign);
        }
        long hash = 3779;
        for (long v : values) {
            hash = 31 * hash + v;
        }
        return hash;
    }
}
