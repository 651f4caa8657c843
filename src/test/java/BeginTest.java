import java.lang.reflect.Constructor;
import java.lang.reflect.Field;
import java.lang.reflect.Method;
import java.lang.reflect.Modifier;
import java.util.TreeSet;

/** The face, promise 1 (a new object) and promise 2 (begin). */
public final class BeginTest {
    private static final Due DUE = new Due("BeginTest");

    private BeginTest() {
    }

    public static void main(String[] args) {
        theFaceIsTheDocuments();
        aNewObjectHasThreeServersInItsFirstSet();
        beginTakesWhatCanBe();
        beginLeavesAllAsItWasIfItCannotBe();
        beginForgetsAll();
        beginForgetsAmongMoreAndFewerServers();
        beginForgetsBadAnswers();
        DUE.end();
    }

    private static void theFaceIsTheDocuments() {
        TreeSet<String> open = new TreeSet<>();
        for (Method each : RegisterFleet.class.getDeclaredMethods()) {
            if (!Modifier.isPrivate(each.getModifiers())) {
                open.add(each.toString());
            }
        }
        TreeSet<String> wanted = new TreeSet<>();
        String[] ints = {
            "read(int,int)", "write(int,int,int)", "change(int,int)", "move(int)", "bag()", "message(int,int)",
            "deliver(int)", "run(int,int)", "map(boolean,int,int)", "cell(int,int,int)", "vote(int,int,int)",
            "client(int,int)", "operation(int,int)", "count(int)", "atomic(int)"};
        for (String each : ints) {
            wanted.add("public int RegisterFleet." + each);
        }
        for (String each : new String[] {"begin(int,int)", "lose(int)", "stop(boolean,int)"}) {
            wanted.add("public boolean RegisterFleet." + each);
        }
        DUE.yes("the methods are " + open, open.equals(wanted));
        Constructor<?>[] made = RegisterFleet.class.getDeclaredConstructors();
        DUE.same("constructors", made.length, 1);
        DUE.yes("a public constructor without parameters",
            made[0].getParameterCount() == 0 && Modifier.isPublic(made[0].getModifiers()));
        for (Field each : RegisterFleet.class.getDeclaredFields()) {
            DUE.yes("private or NONE: " + each, Modifier.isPrivate(each.getModifiers()) || each.getName().equals("NONE"));
        }
        DUE.yes("the class is public and final",
            Modifier.isPublic(RegisterFleet.class.getModifiers()) && Modifier.isFinal(RegisterFleet.class.getModifiers()));
        DUE.same("NONE", RegisterFleet.NONE, -1);
    }

    private static void isNew(String when, Fleet x, int servers, int set) {
        DUE.same(when + " bag", x.bag(), 0);
        for (int s = 0; s < servers; s++) {
            DUE.row(when + " map of server " + s, Looks.map(x, false, s), set, 0, 0, 0, 0, 0);
            for (int r = 0; r < 3; r++) {
                DUE.same(when + " tag", x.cell(s, r, 0), 0);
                DUE.same(when + " value", x.cell(s, r, 1), 0);
            }
            for (int k = 0; k < 5; k++) {
                DUE.row(when + " vote", Looks.votes(x, s, k), 0, 0, 0);
            }
        }
        DUE.same(when + " server behind the last", x.map(false, servers, 0), -2);
        for (int c = 0; c < 4; c++) {
            DUE.row(when + " map of client " + c, Looks.map(x, true, c), set, 0, 0, 0, 0, 0);
            DUE.row(when + " client " + c, Looks.client(x, c), -1, 0, 0, 0, 0, 0, 0);
        }
        for (int what = 0; what < 5; what++) {
            DUE.same(when + " count " + what, x.count(what), 0);
        }
        for (int r = 0; r < 3; r++) {
            DUE.same(when + " atomic " + r, x.atomic(r), 1);
        }
        DUE.same(when + " operation 0", x.operation(0, 0), -2);
    }

    private static void aNewObjectHasThreeServersInItsFirstSet() {
        isNew("new", new Fleet(), 3, 7);
    }

    private static void beginTakesWhatCanBe() {
        int[][] good = {{3, 1}, {3, 7}, {4, 8}, {4, 15}, {5, 31}, {6, 63}, {7, 64}, {7, 127}};
        for (int[] each : good) {
            Fleet x = new Fleet();
            DUE.yes("begin " + each[0] + " " + each[1], x.begin(each[0], each[1]));
            isNew("begin " + each[0] + " " + each[1], x, each[0], each[1]);
        }
    }

    private static void beginLeavesAllAsItWasIfItCannotBe() {
        int[][] bad = {
            {2, 1}, {8, 1}, {0, 0}, {-3, 7}, {3, 0}, {3, -1}, {3, 8}, {4, 16}, {7, 128}, {33, 1},
            {Integer.MIN_VALUE, 1}, {Integer.MAX_VALUE, 1}, {3, Integer.MIN_VALUE}, {3, Integer.MAX_VALUE}};
        Fleet x = new Fleet();
        x.write(0, 0, 5);
        for (int[] each : bad) {
            DUE.no("begin " + each[0] + " " + each[1], x.begin(each[0], each[1]));
        }
        DUE.same("bag", x.bag(), 3);
        DUE.same("began", x.count(0), 1);
        DUE.same("server 2 is there", x.map(false, 2, 0), 7);
        DUE.same("server 3 is not", x.map(false, 3, 0), -2);
    }

    private static void beginForgetsAll() {
        Fleet x = new Fleet();
        for (int r = 0; r < 3; r++) {
            x.write(r, r, 5 + r);
        }
        x.change(3, 3);
        Looks.drain(x);
        x.move(3);
        Looks.drain(x);
        x.read(1, 0);
        x.stop(false, 1);
        x.stop(true, 2);
        DUE.yes("begin", x.begin(3, 5));
        isNew("begin anew", x, 3, 5);
        DUE.same("operations are numbered anew", x.write(2, 1, 4), 0);
        DUE.row("the operation has nothing of a former one", Looks.operation(x, 0), 1, 2, 1, 4, 0, 0, 1, 0, 0);
        DUE.row("the message has nothing of a former one", Looks.message(x, 0), 0, 0, 2, 1, 1, 0, 0, 0);
        DUE.row("nor has its map", Looks.messageMap(x, 0), 5, 0, 0, 0, 0, 0);
        DUE.same("only the set is asked", x.bag(), 2);
    }

    private static void beginForgetsAmongMoreAndFewerServers() {
        Fleet x = new Fleet();
        x.begin(7, 127);
        x.write(0, 2, 8);
        Looks.drain(x);
        x.stop(false, 6);
        DUE.same("server 6 has it", x.cell(6, 2, 1), 8);
        DUE.yes("fewer", x.begin(3, 2));
        isNew("fewer", x, 3, 2);
        DUE.yes("more", x.begin(7, 100));
        isNew("more", x, 7, 100);
    }

    private static void beginForgetsBadAnswers() {
        Fleet x = new Fleet();
        x.change(0, 1);
        x.change(1, 2);
        Looks.pass(x, 2, 0, 1);
        Looks.ask(x, 2, 0, 0);
        DUE.same("a bad answer", x.operation(0, 8), 1);
        x.begin(3, 7);
        x.change(0, 1);
        DUE.row("a new change", Looks.operation(x, 0), 2, 0, 1, 0, 0, 0, 1, 0, 0);
        DUE.same("its first ballot", x.client(0, 5), 4);
    }
}
