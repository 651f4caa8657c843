import java.lang.management.ManagementFactory;
import java.util.Random;

/**
 * All calls of a run share a room of some 600,000 objects and 7.3 million fields. Bytes stand in
 * for them: an object is 16 bytes at least, a field mostly 4.
 */
public final class RoomTest {
    private static final Due DUE = new Due("RoomTest");
    private static final long OBJECTS = 600_000L * 16;
    private static final int CALLS = 512;

    private RoomTest() {
    }

    public static void main(String[] args) {
        within("512 new objects", RoomTest::newObjects);
        within("looks at atomic", RoomTest::looksAtAtomic);
        within("512 begins with messages left behind", RoomTest::beginsOverAFullBag);
        within("changes against one another", RoomTest::rivals);
        for (int seed = 0; seed < 20; seed++) {
            Random random = new Random(seed);
            within("a drawn run " + seed, () -> drawn(random));
        }
        messagesAreUsedAgain();
        DUE.end();
    }

    private static long made() {
        return ((com.sun.management.ThreadMXBean) ManagementFactory.getThreadMXBean()).getCurrentThreadAllocatedBytes();
    }

    private static void within(String what, Runnable run) {
        run.run();
        long before = made();
        run.run();
        long bytes = made() - before;
        DUE.yes(what + " made " + bytes + " bytes", bytes < OBJECTS);
    }

    private static void newObjects() {
        for (int i = 0; i < CALLS; i++) {
            DUE.same("bag", new RegisterFleet().bag(), 0);
        }
    }

    private static void looksAtAtomic() {
        RegisterFleet x = new RegisterFleet();
        for (int n = 0; n < 14; n++) {
            x.write(n % 4, 0, n);
            x.run(n, n % 4 == 3 ? 1000 : 0);
        }
        for (int i = 28; i < CALLS; i++) {
            DUE.same("atomic", x.atomic(0), 1);
        }
    }

    private static void beginsOverAFullBag() {
        RegisterFleet x = new RegisterFleet();
        for (int i = 0; i < CALLS / 5; i++) {
            x.begin(7, 127);
            for (int c = 0; c < 4; c++) {
                x.change(c, 127);
            }
        }
        DUE.same("bag", x.bag(), 28);
    }

    private static void rivals() {
        RegisterFleet x = new RegisterFleet();
        x.begin(7, 127);
        for (int i = 1; i < CALLS / 5; i++) {
            x.change(i % 4, i % 127 + 1);
            x.run(i, i % 4 == 3 ? 1000 : 9);
            if (x.count(0) == 60 || x.map(true, 0, 5) != 0) {
                x.begin(7, 127);
            }
        }
    }

    private static void drawn(Random random) {
        RegisterFleet x = new RegisterFleet();
        x.begin(7, 127);
        for (int i = 1; i < CALLS; i++) {
            int c = random.nextInt(4);
            switch (random.nextInt(5)) {
                case 0 -> x.write(c, random.nextInt(3), i);
                case 1 -> x.change(c, random.nextInt(127) + 1);
                case 2 -> x.move(c);
                case 3 -> x.run(random.nextInt(), random.nextInt(30));
                default -> x.deliver(random.nextInt(40));
            }
        }
    }

    /** Once the bag has been as full as it gets, the same calls make next to nothing. */
    private static void messagesAreUsedAgain() {
        RegisterFleet x = new RegisterFleet();
        changesLeftAndDelivered(x);
        long before = made();
        changesLeftAndDelivered(x);
        long bytes = made() - before;
        DUE.yes("the second time made " + bytes + " bytes", bytes < 2000);
    }

    private static void changesLeftAndDelivered(RegisterFleet x) {
        for (int i = 0; i < 30; i++) {
            x.begin(7, 127);
            for (int c = 0; c < 4; c++) {
                x.change(c, 127);
            }
            x.run(i, i % 2 == 0 ? 1000 : 20);
            x.lose(0);
        }
    }
}
