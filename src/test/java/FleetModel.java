import java.util.ArrayList;
import java.util.HashSet;
import java.util.List;
import java.util.Set;

/**
 * The document told a second time, in other shapes and with no care for room: messages never
 * change once sent, sets are sets, and a register's row is searched one operation at a time.
 */
final class FleetModel {
    static final int NONE = -1;
    static final int NO_SUCH = -2;
    static final int GONE = -1;

    record Letter(int kind, int server, int client, int round, int subject, int[] tags, int[] values, boolean bad, int[] map) {
    }

    record Pair(int tag, int value) {
    }

    static final class Srv {
        int[] map;
        boolean stopped;
        final int[] tag = new int[3];
        final int[] value = new int[3];
        final int[][] vote = new int[5][3];
    }

    static final class Job {
        int number;
        int kind;
        int client;
        int r;
        int v;
        int set;
        int k;
        int[] sets = new int[2];
        int begin;
        int end;
        int result;
        int bads;
        int roundOfJob = 1;
        int ballot;
        Pair best = new Pair(0, 0);
        int offered;
        Pair[] surveyed = {new Pair(0, 0), new Pair(0, 0), new Pair(0, 0)};
    }

    static final class Cli {
        int[] map;
        boolean stopped;
        Job job;
        int round;
        Set<Integer> asked = new HashSet<>();
        Set<Integer> well = new HashSet<>();
    }

    private int size;
    private List<Srv> srvs;
    private List<Cli> clis;
    private List<Job> jobs;
    private List<Letter> letters;
    private int time;
    private int ends;
    private int ever;
    private int got;

    FleetModel() {
        fresh(3, 7);
    }

    private void fresh(int servers, int set) {
        size = servers;
        srvs = new ArrayList<>();
        clis = new ArrayList<>();
        jobs = new ArrayList<>();
        letters = new ArrayList<>();
        time = 0;
        ends = 0;
        ever = 0;
        got = 0;
        for (int s = 0; s < servers; s++) {
            Srv x = new Srv();
            x.map = new int[] {set, 0, 0, 0, 0, 0};
            srvs.add(x);
        }
        for (int c = 0; c < 4; c++) {
            Cli x = new Cli();
            x.map = new int[] {set, 0, 0, 0, 0, 0};
            clis.add(x);
        }
    }

    boolean begin(int servers, int set) {
        if (servers < 3 || servers > 7 || set < 1 || set >= Math.pow(2, servers)) {
            return false;
        }
        fresh(servers, set);
        return true;
    }

    private boolean free(int c) {
        return c >= 0 && c <= 3 && clis.get(c).job == null && !clis.get(c).stopped && jobs.size() < 60;
    }

    private int launch(int c, Job j) {
        j.client = c;
        j.number = jobs.size();
        j.begin = ++time;
        j.ballot = 4 + c;
        jobs.add(j);
        clis.get(c).job = j;
        newRound(c);
        return j.number;
    }

    int read(int c, int r) {
        if (!free(c) || r < 0 || r > 2) {
            return NONE;
        }
        Job j = new Job();
        j.kind = 0;
        j.r = r;
        return launch(c, j);
    }

    int write(int c, int r, int v) {
        if (!free(c) || r < 0 || r > 2) {
            return NONE;
        }
        Job j = new Job();
        j.kind = 1;
        j.r = r;
        j.v = v;
        return launch(c, j);
    }

    int change(int c, int set) {
        if (!free(c) || set < 1 || set >= Math.pow(2, size)) {
            return NONE;
        }
        int[] map = clis.get(c).map;
        int k = 5;
        while (map[k] == 0) {
            k--;
        }
        if (k == 5) {
            return NONE;
        }
        Job j = new Job();
        j.kind = 2;
        j.set = set;
        j.k = k;
        j.sets[0] = map[k];
        return launch(c, j);
    }

    int move(int c) {
        if (!free(c)) {
            return NONE;
        }
        int[] map = clis.get(c).map;
        int k = 0;
        while (k < 6 && map[k] <= 0) {
            k++;
        }
        if (k >= 5 || map[k + 1] <= 0) {
            return NONE;
        }
        Job j = new Job();
        j.kind = 3;
        j.k = k;
        j.sets[0] = map[k];
        j.sets[1] = map[k + 1];
        return launch(c, j);
    }

    private static Set<Integer> members(int set) {
        Set<Integer> all = new HashSet<>();
        for (int s = 0; s < 7; s++) {
            if (set / (int) Math.pow(2, s) % 2 == 1) {
                all.add(s);
            }
        }
        return all;
    }

    private List<Set<Integer>> groups(Cli x) {
        List<Set<Integer>> all = new ArrayList<>();
        Job j = x.job;
        if (j.kind <= 1) {
            for (int entry : x.map) {
                if (entry > 0) {
                    all.add(members(entry));
                }
            }
        } else if (j.kind == 2) {
            all.add(members(j.sets[0]));
        } else {
            all.add(members(j.sets[j.roundOfJob - 1]));
        }
        return all;
    }

    private void newRound(int c) {
        Cli x = clis.get(c);
        x.round++;
        x.asked = new HashSet<>();
        x.well = new HashSet<>();
        askRest(c);
    }

    private void askRest(int c) {
        Cli x = clis.get(c);
        for (int s = 0; s < size; s++) {
            boolean wanted = false;
            for (Set<Integer> group : groups(x)) {
                wanted |= group.contains(s);
            }
            if (wanted && x.asked.add(s)) {
                send(question(c, s));
            }
        }
    }

    private Letter question(int c, int s) {
        Cli x = clis.get(c);
        Job j = x.job;
        int[] t = new int[3];
        int[] v = new int[3];
        boolean second = j.roundOfJob == 2;
        int kind;
        int subject;
        if (j.kind <= 1) {
            kind = second ? 1 : 0;
            subject = j.r;
            if (second) {
                t[0] = j.best.tag();
                v[0] = j.best.value();
            }
        } else if (j.kind == 2) {
            kind = second ? 3 : 2;
            subject = j.k;
            t[0] = j.ballot;
            v[0] = second ? j.offered : 0;
        } else {
            kind = second ? 5 : 4;
            subject = j.k;
            for (int r = 0; second && r < 3; r++) {
                t[r] = j.surveyed[r].tag();
                v[r] = j.surveyed[r].value();
            }
        }
        return new Letter(kind, s, c, x.round, subject, t, v, false, x.map.clone());
    }

    private void send(Letter l) {
        letters.add(l);
        ever++;
    }

    int bag() {
        return letters.size();
    }

    int message(int i, int what) {
        if (i < 0 || i >= letters.size() || what < 0 || what > 13) {
            return NO_SUCH;
        }
        Letter l = letters.get(i);
        int[] face = {l.kind(), l.server(), l.client(), l.round(), l.subject(), l.tags()[0], l.values()[0], l.bad() ? 1 : 0};
        return what < 8 ? face[what] : l.map()[what - 8];
    }

    int deliver(int i) {
        if (i < 0 || i >= letters.size()) {
            return NONE;
        }
        Letter l = letters.remove(i);
        boolean toClient = l.kind() >= 10;
        if (toClient ? clis.get(l.client()).stopped : srvs.get(l.server()).stopped) {
            return 0;
        }
        got++;
        if (toClient) {
            atClient(l);
        } else {
            atServer(l);
        }
        return 1;
    }

    private static int[] joined(int[] a, int[] b) {
        int[] both = new int[6];
        for (int k = 0; k < 6; k++) {
            if (a[k] == GONE || b[k] == GONE) {
                both[k] = GONE;
            } else {
                if (a[k] > 0 && b[k] > 0 && a[k] != b[k]) {
                    throw new IllegalStateException("two sets for one number");
                }
                both[k] = Math.max(a[k], b[k]);
            }
        }
        return both;
    }

    private void atServer(Letter l) {
        Srv x = srvs.get(l.server());
        x.map = joined(x.map, l.map());
        int[] t = new int[3];
        int[] v = new int[3];
        boolean bad = false;
        int[] vote = x.vote[l.subject()];
        if (l.kind() == 0) {
            t[0] = x.tag[l.subject()];
            v[0] = x.value[l.subject()];
        } else if (l.kind() == 1) {
            raise(x, l.subject(), l.tags()[0], l.values()[0]);
        } else if (l.kind() == 2) {
            bad = vote[0] >= l.tags()[0];
            if (bad) {
                t[0] = vote[0];
            } else {
                vote[0] = l.tags()[0];
                t[0] = vote[1];
                v[0] = vote[2];
            }
        } else if (l.kind() == 3) {
            bad = vote[0] > l.tags()[0];
            if (bad) {
                t[0] = vote[0];
            } else {
                vote[0] = l.tags()[0];
                vote[1] = l.tags()[0];
                vote[2] = l.values()[0];
            }
        } else if (l.kind() == 4) {
            t = x.tag.clone();
            v = x.value.clone();
        } else if (l.kind() == 5) {
            for (int r = 0; r < 3; r++) {
                raise(x, r, l.tags()[r], l.values()[r]);
            }
        } else {
            return;
        }
        send(new Letter(l.kind() + 10, l.server(), l.client(), l.round(), l.subject(), t, v, bad, x.map.clone()));
    }

    private static void raise(Srv x, int r, int tag, int value) {
        if (tag > x.tag[r]) {
            x.tag[r] = tag;
            x.value[r] = value;
        }
    }

    private void atClient(Letter l) {
        Cli x = clis.get(l.client());
        x.map = joined(x.map, l.map());
        Job j = x.job;
        if (j == null) {
            return;
        }
        boolean counts = l.round() == x.round;
        if (counts && !l.bad()) {
            x.well.add(l.server());
            if (j.roundOfJob == 1) {
                keepGreatest(j, l);
            }
        }
        if (j.kind == 2) {
            if (x.map[j.k] == GONE || x.map[j.k + 1] != 0) {
                over(x, x.map[j.k + 1] == j.set ? 1 : 0);
                return;
            }
            if (counts && l.bad()) {
                j.bads++;
                if (j.bads == 9) {
                    over(x, 0);
                } else {
                    j.ballot = 4 * (l.tags()[0] / 4 + 1) + l.client();
                    j.roundOfJob = 1;
                    j.best = new Pair(0, 0);
                    newRound(l.client());
                }
                return;
            }
        }
        if (j.kind == 3 && x.map[j.k] == GONE) {
            over(x, j.k);
            return;
        }
        askRest(l.client());
        for (Set<Integer> group : groups(x)) {
            Set<Integer> those = new HashSet<>(group);
            those.retainAll(x.well);
            if (those.size() * 2 <= group.size()) {
                return;
            }
        }
        roundOver(l.client());
    }

    private static void keepGreatest(Job j, Letter l) {
        if (l.tags()[0] > j.best.tag()) {
            j.best = new Pair(l.tags()[0], l.values()[0]);
        }
        for (int r = 0; r < 3; r++) {
            if (l.tags()[r] > j.surveyed[r].tag()) {
                j.surveyed[r] = new Pair(l.tags()[r], l.values()[r]);
            }
        }
    }

    private void roundOver(int c) {
        Cli x = clis.get(c);
        Job j = x.job;
        if (j.roundOfJob == 1) {
            j.roundOfJob = 2;
            if (j.kind == 1) {
                j.best = new Pair(4 * (j.best.tag() / 4 + 1) + c, j.v);
            }
            if (j.kind == 2) {
                j.offered = j.best.tag() > 0 ? j.best.value() : j.set;
            }
            newRound(c);
        } else if (j.kind <= 1) {
            over(x, j.best.value());
        } else if (j.kind == 2) {
            x.map[j.k + 1] = j.offered;
            news(c, j.sets[0], j.offered);
            over(x, j.offered == j.set ? 1 : 0);
        } else {
            x.map[j.k] = GONE;
            news(c, j.sets[0], j.sets[1]);
            over(x, j.k);
        }
    }

    private void news(int c, int a, int b) {
        for (int s = 0; s < size; s++) {
            if (members(a).contains(s) || members(b).contains(s)) {
                send(new Letter(6, s, c, 0, 0, new int[3], new int[3], false, clis.get(c).map.clone()));
            }
        }
    }

    private void over(Cli x, int result) {
        x.job.result = result;
        x.job.end = ++time;
        ends++;
        x.job = null;
    }

    boolean lose(int i) {
        if (i < 0 || i >= letters.size()) {
            return false;
        }
        letters.remove(i);
        return true;
    }

    int run(int seed, int n) {
        if (n < 0 || n > 1000) {
            return NONE;
        }
        for (int i = 0; i < n; i++) {
            if (letters.isEmpty()) {
                return i;
            }
            seed = seed * 1103515245 + 12345;
            deliver((seed >>> 16) % letters.size());
        }
        return n;
    }

    boolean stop(boolean client, int s) {
        if (client) {
            if (s < 0 || s > 3 || clis.get(s).stopped) {
                return false;
            }
            clis.get(s).stopped = true;
        } else {
            if (s < 0 || s >= size || srvs.get(s).stopped) {
                return false;
            }
            srvs.get(s).stopped = true;
        }
        return true;
    }

    int map(boolean client, int s, int k) {
        if (s < 0 || s >= (client ? 4 : size) || k < 0 || k > 5) {
            return NO_SUCH;
        }
        return client ? clis.get(s).map[k] : srvs.get(s).map[k];
    }

    int cell(int s, int r, int what) {
        if (s < 0 || s >= size || r < 0 || r > 2 || what < 0 || what > 1) {
            return 0;
        }
        return what == 0 ? srvs.get(s).tag[r] : srvs.get(s).value[r];
    }

    int vote(int s, int k, int what) {
        if (s < 0 || s >= size || k < 0 || k > 4 || what < 0 || what > 2) {
            return 0;
        }
        return srvs.get(s).vote[k][what];
    }

    private static int number(Set<Integer> those) {
        int sum = 0;
        for (int s : those) {
            sum += (int) Math.pow(2, s);
        }
        return sum;
    }

    int client(int c, int what) {
        if (c < 0 || c > 3 || what < 0 || what > 6) {
            return NO_SUCH;
        }
        Cli x = clis.get(c);
        int stopped = x.stopped ? 1 : 0;
        if (x.job == null) {
            return new int[] {NONE, x.round, 0, 0, 0, 0, stopped}[what];
        }
        int mark = x.job.kind == 2 ? x.job.ballot : x.job.kind <= 1 && x.job.roundOfJob == 2 ? x.job.best.tag() : 0;
        return new int[] {x.job.number, x.round, number(x.asked), number(x.well), x.job.roundOfJob, mark, stopped}[what];
    }

    int operation(int n, int what) {
        if (n < 0 || n >= jobs.size() || what < 0 || what > 8) {
            return NO_SUCH;
        }
        Job j = jobs.get(n);
        int subject = j.kind <= 1 ? j.r : j.kind == 2 ? j.set : j.k;
        return new int[] {j.kind, j.client, subject, j.v, j.end > 0 ? 1 : 0, j.result, j.begin, j.end, j.bads}[what];
    }

    int count(int what) {
        return what < 0 || what > 4 ? NONE : new int[] {jobs.size(), ends, time, ever, got}[what];
    }

    int atomic(int r) {
        if (r < 0 || r > 2) {
            return NONE;
        }
        List<Row.Entry> all = new ArrayList<>();
        for (Job j : jobs) {
            if (j.kind <= 1 && j.r == r) {
                all.add(new Row.Entry(j.kind == 1, j.kind == 1 ? j.v : j.result, j.begin, j.end));
            }
        }
        if (all.size() > 14) {
            return NONE;
        }
        return Row.canBePut(all) ? 1 : 0;
    }
}
