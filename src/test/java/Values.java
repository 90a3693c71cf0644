import java.util.ArrayList;
import java.util.List;

/** All that an object answers, in the order of the digest; this takes some 160 to 210 of its 512 calls. */
final class Values {
    private Values() {
    }

    /** The object can not be asked whether there is a snapshot (1 or 0) and what the buffer holds. */
    static List<Long> of(WhisperedPots x, int snapshot, String buffer) {
        List<Long> values = new ArrayList<>();
        for (int what = 0; what <= 9; what++) {
            values.add((long) x.count(what));
        }
        for (int guest = 0; guest <= 7; guest++) {
            for (int what = 0; what <= 9; what++) {
                values.add((long) x.guest(guest, what));
            }
        }
        for (int pot = 0; pot <= 2; pot++) {
            for (int what = 0; what <= 7; what++) {
                values.add((long) x.pot(pot, what));
            }
            for (int guest = 0; guest <= 7; guest++) {
                values.add((long) x.told(pot, guest));
            }
            for (int what = 0; what <= 2; what++) {
                values.add((long) x.ifPoured(pot, what));
            }
            values.add((long) x.emptyIn(pot));
            values.add((long) x.bestGuest(pot));
        }
        for (int rank = 0; x.tale(rank, 0) != WhisperedPots.NONE; rank++) {
            values.add((long) x.tale(rank, 0));
            values.add((long) x.tale(rank, 1));
        }
        values.add(Double.doubleToLongBits(x.spiltShare()));
        values.add((long) Float.floatToIntBits(x.meanTrust()));
        values.add((long) snapshot);
        values.add((long) buffer.length());
        for (int i = 0; i < buffer.length(); i++) {
            values.add((long) buffer.charAt(i));
        }
        return values;
    }

    /** The digest that is due. */
    static long digestOf(WhisperedPots x, int snapshot, String buffer) {
        return hash(of(x, snapshot, buffer));
    }

    /** What undo() restores, in one number: all but the saved states, the snapshot and the buffer. */
    static long stateOf(WhisperedPots x) {
        List<Long> values = of(x, 0, "");
        values.set(9, 0L);
        return hash(values);
    }

    private static long hash(List<Long> values) {
        long hash = 3779L;
        for (long value : values) {
            hash = 31 * hash + value;
        }
        return hash;
    }
}
