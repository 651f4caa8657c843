import java.util.Random;

/** Drawn runs of calls, each answer and all that can be seen compared with the model's. */
public final class ModelTest {
    private static final int RUNS = 600;
    private static final int CALLS = 300;

    private final Due due;
    private final Random random;
    private final int number;
    private final Fleet x = new Fleet();
    private final FleetModel y = new FleetModel();
    private int servers = 3;

    private ModelTest(Due due, int number) {
        this.due = due;
        this.number = number;
        this.random = new Random(number);
    }

    public static void main(String[] args) {
        Due all = new Due("ModelTest");
        int notAtomic = 0;
        int ninth = 0;
        int lastNumber = 0;
        for (int number = 0; number < RUNS; number++) {
            ModelTest one = new ModelTest(all, number);
            for (int call = 0; call < CALLS; call++) {
                one.drawnCall();
                if (call % 10 == 0) {
                    one.compareAll();
                }
            }
            one.compareAll();
            for (int r = 0; r < 3; r++) {
                notAtomic += one.x.atomic(r) == 0 ? 1 : 0;
            }
            for (int n = 0; n < one.x.count(0); n++) {
                ninth += one.x.operation(n, 8) == 9 ? 1 : 0;
            }
            lastNumber += one.x.map(true, 0, 5) != 0 ? 1 : 0;
        }
        System.out.println(notAtomic + " registers not atomic, " + ninth + " ninth bad answers, " + lastNumber + " runs with all numbers");
        all.yes("some run reaches number 5", lastNumber > 0);
        all.end();
    }

    private int near(int bound) {
        return random.nextInt(40) == 0 ? random.nextInt(bound + 4) - 2 : random.nextInt(bound);
    }

    private int place() {
        int size = Math.max(1, x.bag());
        return random.nextInt(60) == 0 ? random.nextInt(size + 4) - 2 : random.nextInt(size);
    }

    private void same(String what, int got, int want) {
        due.same("run " + number + ": " + what, got, want);
    }

    private void same(String what, boolean got, boolean want) {
        same(what, got ? 1 : 0, want ? 1 : 0);
    }

    private void drawnCall() {
        int draw = random.nextInt(100);
        if (draw < 30) {
            begins(random.nextInt(number % 4 + 3));
        } else if (draw < 85) {
            int i = place();
            same("deliver", x.deliver(i), y.deliver(i));
        } else if (draw < 90) {
            int i = place();
            same("lose", x.lose(i), y.lose(i));
        } else if (draw < 97) {
            int seed = random.nextInt();
            int n = random.nextInt(20) == 0 ? random.nextInt(1100) - 50 : random.nextInt(number % 3 == 0 ? 60 : 8);
            same("run", x.run(seed, n), y.run(seed, n));
        } else if (random.nextInt(6) == 0) {
            boolean client = random.nextBoolean();
            int s = near(client ? 4 : servers);
            same("stop", x.stop(client, s), y.stop(client, s));
        } else if (random.nextInt(12) == 0) {
            int size = random.nextInt(7) + 2;
            int set = random.nextInt((1 << size) + 1);
            same("begin", x.begin(size, set), y.begin(size, set));
            servers = serversNow();
        }
    }

    private int serversNow() {
        int s = 0;
        while (s < 7 && x.map(false, s, 0) != -2) {
            s++;
        }
        return s;
    }

    private void begins(int draw) {
        int c = near(4);
        if (draw == 0) {
            int r = near(3);
            same("read", x.read(c, r), y.read(c, r));
        } else if (draw == 1) {
            int r = near(3);
            int v = random.nextInt(5) - 1;
            same("write", x.write(c, r, v), y.write(c, r, v));
        } else if (draw == 2) {
            same("move", x.move(c), y.move(c));
        } else {
            int set = near(1 << servers);
            same("change", x.change(c, set), y.change(c, set));
        }
    }

    private void compareAll() {
        same("bag", x.bag(), y.bag());
        for (int i = -1; i <= y.bag(); i++) {
            for (int what = -1; what <= 14; what++) {
                same("message " + i + " " + what, x.message(i, what), y.message(i, what));
            }
        }
        for (int s = -1; s <= 7; s++) {
            for (int k = -1; k <= 6; k++) {
                same("map s " + s + " " + k, x.map(false, s, k), y.map(false, s, k));
                same("map c " + s + " " + k, x.map(true, s, k), y.map(true, s, k));
                for (int what = -1; what <= 3; what++) {
                    same("cell " + s + " " + k + " " + what, x.cell(s, k, what), y.cell(s, k, what));
                    same("vote " + s + " " + k + " " + what, x.vote(s, k, what), y.vote(s, k, what));
                }
            }
            for (int what = -1; what <= 7; what++) {
                same("client " + s + " " + what, x.client(s, what), y.client(s, what));
            }
        }
        for (int n = -1; n <= y.count(0); n++) {
            for (int what = -1; what <= 9; what++) {
                same("operation " + n + " " + what, x.operation(n, what), y.operation(n, what));
            }
        }
        for (int what = -1; what <= 5; what++) {
            same("count " + what, x.count(what), y.count(what));
            same("atomic " + what, x.atomic(what), y.atomic(what));
        }
    }
}
