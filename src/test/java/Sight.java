import java.util.ArrayList;
import java.util.List;

/** All that a fleet shows, a line for each look: two that look alike show the same lines. */
final class Sight {
    private final List<String> lines = new ArrayList<>();

    private Sight() {
    }

    static Sight of(Fleet x) {
        Sight all = new Sight();
        all.bag(x);
        all.servers(x);
        all.clients(x);
        all.operations(x);
        return all;
    }

    /** The first line that differs, or an empty text if none does. */
    String differsFrom(Sight other) {
        for (int i = 0; i < Math.max(lines.size(), other.lines.size()); i++) {
            String here = i < lines.size() ? lines.get(i) : "nothing";
            String there = i < other.lines.size() ? other.lines.get(i) : "nothing";
            if (!here.equals(there)) {
                return here + " instead of " + there;
            }
        }
        return "";
    }

    private void add(String call, int... answers) {
        StringBuilder line = new StringBuilder(call);
        for (int each : answers) {
            line.append(' ').append(each);
        }
        lines.add(line.toString());
    }

    private void bag(Fleet x) {
        int size = x.bag();
        add("bag", size);
        for (int i = 0; i < size; i++) {
            add("message " + i, Looks.message(x, i));
            add("map of message " + i, Looks.messageMap(x, i));
        }
    }

    private void servers(Fleet x) {
        for (int s = 0; s < 8; s++) {
            add("map of server " + s, Looks.map(x, false, s));
            for (int r = 0; r < 3; r++) {
                add("cell " + s + " " + r, x.cell(s, r, 0), x.cell(s, r, 1));
            }
            for (int k = 0; k < 5; k++) {
                add("vote " + s + " " + k, Looks.votes(x, s, k));
            }
        }
    }

    private void clients(Fleet x) {
        for (int c = 0; c < 4; c++) {
            add("map of client " + c, Looks.map(x, true, c));
            add("client " + c, Looks.client(x, c));
        }
    }

    private void operations(Fleet x) {
        int began = x.count(0);
        for (int n = 0; n <= began; n++) {
            add("operation " + n, Looks.operation(x, n));
        }
        for (int what = 0; what < 5; what++) {
            add("count " + what, x.count(what));
        }
        for (int r = 0; r < 3; r++) {
            add("atomic " + r, x.atomic(r));
        }
    }
}
