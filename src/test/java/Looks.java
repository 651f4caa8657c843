import java.util.function.IntPredicate;

/** Short ways to look at a fleet and to pick messages by what they are instead of where they lie. */
final class Looks {
    static final int MAP = 8;

    private Looks() {
    }

    static int[] message(Fleet x, int i) {
        int[] row = new int[MAP];
        for (int what = 0; what < row.length; what++) {
            row[what] = x.message(i, what);
        }
        return row;
    }

    static int[] messageMap(Fleet x, int i) {
        int[] row = new int[6];
        for (int k = 0; k < row.length; k++) {
            row[k] = x.message(i, MAP + k);
        }
        return row;
    }

    static int[] map(Fleet x, boolean client, int s) {
        int[] row = new int[6];
        for (int k = 0; k < row.length; k++) {
            row[k] = x.map(client, s, k);
        }
        return row;
    }

    static int[] client(Fleet x, int c) {
        int[] row = new int[7];
        for (int what = 0; what < row.length; what++) {
            row[what] = x.client(c, what);
        }
        return row;
    }

    static int[] operation(Fleet x, int n) {
        int[] row = new int[9];
        for (int what = 0; what < row.length; what++) {
            row[what] = x.operation(n, what);
        }
        return row;
    }

    static int[] votes(Fleet x, int s, int k) {
        return new int[] {x.vote(s, k, 0), x.vote(s, k, 1), x.vote(s, k, 2)};
    }

    /** The first message that fits, or -1. */
    static int find(Fleet x, IntPredicate fits) {
        for (int i = 0; i < x.bag(); i++) {
            if (fits.test(i)) {
                return i;
            }
        }
        return -1;
    }

    /** Delivers the newest message of this kind between these two: -1 if there is none. */
    static int pass(Fleet x, int kind, int server, int client) {
        for (int i = x.bag() - 1; i >= 0; i--) {
            if (x.message(i, 0) == kind && x.message(i, 1) == server && x.message(i, 2) == client) {
                return x.deliver(i);
            }
        }
        return -1;
    }

    /** Delivers the newest question of this kind and then its answer. */
    static void ask(Fleet x, int kind, int server, int client) {
        pass(x, kind, server, client);
        pass(x, kind + 10, server, client);
    }

    /** Delivers the questions of this kind, then those of the next one, to these servers, and each one's answer. */
    static void bothRounds(Fleet x, int kind, int client, int... servers) {
        for (int each = kind; each <= kind + 1; each++) {
            for (int s : servers) {
                ask(x, each, s, client);
            }
        }
    }

    /** Delivers all, the oldest first. */
    static void drain(Fleet x) {
        for (int i = 0; i < 10_000 && x.bag() > 0; i++) {
            x.deliver(0);
        }
    }

    /** Loses all but those of this kind. */
    static void loseOthers(Fleet x, int kind) {
        for (int i = x.bag() - 1; i >= 0; i--) {
            if (x.message(i, 0) != kind) {
                x.lose(i);
            }
        }
    }

    static void loseAll(Fleet x) {
        for (int i = 0; i < 10_000 && x.bag() > 0; i++) {
            x.lose(0);
        }
    }
}
