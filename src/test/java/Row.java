import java.util.HashSet;
import java.util.List;
import java.util.Set;

/** What makes a register ATOMIC, told a second time: the row is tried out one operation after the other. */
final class Row {
    /** A read's value is what it ended with; end is 0 as yet. */
    record Entry(boolean write, int value, int begin, int end) {
    }

    private final List<Entry> all;
    private final Set<Long> tried = new HashSet<>();

    private Row(List<Entry> all) {
        this.all = all;
    }

    static boolean canBePut(List<Entry> entries) {
        return new Row(entries.stream().filter(each -> each.write() || each.end() > 0).toList()).rest(0, 0);
    }

    /** Whether the rest can follow those that are placed, when the register holds a value. */
    private boolean rest(int placed, int value) {
        if (!tried.add(((long) placed << 32) + (value & 0xffffffffL))) {
            return false;
        }
        boolean done = true;
        for (int i = 0; i < all.size(); i++) {
            Entry next = all.get(i);
            if ((placed >> i & 1) == 1) {
                continue;
            }
            done &= next.end() == 0;
            if (nothingWaitsAhead(placed, next) && (next.write() || next.value() == value)
                && rest(placed | 1 << i, next.value())) {
                return true;
            }
        }
        return done;
    }

    private boolean nothingWaitsAhead(int placed, Entry next) {
        for (int i = 0; i < all.size(); i++) {
            Entry other = all.get(i);
            if ((placed >> i & 1) == 0 && other.end() != 0 && other.end() < next.begin()) {
                return false;
            }
        }
        return true;
    }
}
