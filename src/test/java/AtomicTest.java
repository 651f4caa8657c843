import java.util.ArrayList;
import java.util.Collections;
import java.util.List;
import java.util.Random;

/** Promise 19 (atomic). */
public final class AtomicTest {
    private static final Due DUE = new Due("AtomicTest");
    private static final int ASKS = 0;
    private static final int TELLS = 1;

    private AtomicTest() {
    }

    public static void main(String[] args) {
        registersThatAreNotThere();
        fourteenAtMost();
        eachRegisterIsLookedAtAlone();
        aWriteThatDidNotEndMayStandInTheRow();
        aReadThatDidNotEndHasNoPlace();
        operationsAtTheSameTimeMayStandEitherWay();
        theWidestRowFits();
        aReadOfWhatWasOverwrittenIsNotAtomic();
        theSameValueWrittenAgainHidesIt();
        aWriteAtTheSameTimeHidesIt();
        theMomentBeforeAndTheMomentAfter();
        fourteenThatAreNotAtomic();
        aSecondSearchFindsTheSame();
        DUE.end();
    }

    private static void registersThatAreNotThere() {
        Fleet x = new Fleet();
        for (int r : new int[] {-1, 3, 4, Integer.MIN_VALUE, Integer.MAX_VALUE}) {
            DUE.same("register " + r, x.atomic(r), -1);
        }
        for (int r = 0; r < 3; r++) {
            DUE.same("nothing began on " + r, x.atomic(r), 1);
        }
    }

    private static void fourteenAtMost() {
        Fleet x = new Fleet();
        for (int n = 0; n < 14; n++) {
            if (n % 3 == 0) {
                x.write(n % 4, 1, n);
            } else {
                x.read(n % 4, 1);
            }
            Looks.drain(x);
            DUE.same("after " + n, x.atomic(1), 1);
        }
        x.read(0, 0);
        x.change(1, 3);
        Looks.drain(x);
        DUE.same("others do not count", x.atomic(1), 1);
        x.read(2, 1);
        DUE.same("a fifteenth that only began", x.atomic(1), -1);
        Looks.drain(x);
        DUE.same("and ended", x.atomic(1), -1);
        DUE.same("another register", x.atomic(0), 1);
        x.begin(3, 7);
        DUE.same("anew", x.atomic(1), 1);
        for (int n = 0; n < 15; n++) {
            x.write(0, 2, n);
            Looks.drain(x);
        }
        DUE.same("fifteen writes", x.atomic(2), -1);
    }

    private static void eachRegisterIsLookedAtAlone() {
        Fleet x = stale(5);
        int[] want = {0, 1, 1};
        for (int r = 0; r < 3; r++) {
            DUE.same("register " + r, x.atomic(r), want[r]);
        }
        x.write(3, 1, 5);
        Looks.drain(x);
        x.read(3, 1);
        Looks.drain(x);
        DUE.same("register 1", x.atomic(1), 1);
        DUE.same("register 0 stays so", x.atomic(0), 0);
    }

    private static void aWriteThatDidNotEndMayStandInTheRow() {
        for (int seen = 0; seen < 2; seen++) {
            Fleet x = new Fleet();
            x.write(0, 0, 9);
            Looks.ask(x, ASKS, 0, 0);
            Looks.ask(x, ASKS, 1, 0);
            Looks.pass(x, TELLS, 0, 0);
            x.stop(true, 0);
            Looks.loseAll(x);
            x.read(1, 0);
            x.lose(seen == 1 ? 2 : 0);
            Looks.drain(x);
            DUE.same("read", x.operation(1, 5), seen == 1 ? 9 : 0);
            DUE.same("atomic", x.atomic(0), 1);
        }
    }

    private static void aReadThatDidNotEndHasNoPlace() {
        Fleet x = new Fleet();
        x.read(0, 0);
        DUE.same("nothing ended", x.atomic(0), 1);
        x.write(1, 0, 4);
        Looks.bothRounds(x, ASKS, 1, 0, 1);
        DUE.same("a write ended", x.atomic(0), 1);
        x.stop(true, 0);
        x.read(2, 0);
        Looks.drain(x);
        DUE.same("read", x.operation(2, 5), 4);
        DUE.same("the first read waits for good", x.operation(0, 4), 0);
        DUE.same("atomic", x.atomic(0), 1);
    }

    private static void operationsAtTheSameTimeMayStandEitherWay() {
        for (int seed = 0; seed < 50; seed++) {
            Fleet x = new Fleet();
            x.begin(5, 31);
            for (int turn = 0; turn < 3; turn++) {
                x.write(0, 0, 10 + turn);
                x.write(1, 0, 20 + turn);
                x.read(2, 0);
                x.read(3, 0);
                x.run(seed, 1000);
            }
            DUE.same("ended", x.count(1), 12);
            DUE.same("atomic by " + seed, x.atomic(0), 1);
        }
    }

    private static void theWidestRowFits() {
        Fleet x = new Fleet();
        for (int turn = 0; turn < 3; turn++) {
            for (int c = 0; c < 4; c++) {
                x.write(c, 0, 10 * turn + c);
            }
            x.run(turn, 1000);
        }
        x.read(0, 0);
        x.read(1, 0);
        x.run(9, 1000);
        DUE.same("fourteen ended", x.count(1), 14);
        DUE.same("four, four, three and three", x.atomic(0), 1);
    }

    /**
     * A read that counts an answer from before the move for a set of after it: client 1 hears
     * server 0 first, all is then moved by way of others to servers 0 and 3, and a late answer of a
     * former round tells it to ask servers 3 and 4 too. Server 4's answer makes it full.
     */
    private static Fleet stale(int written) {
        Fleet x = new Fleet();
        x.begin(5, 7);
        onTwo(x, 1, x.read(1, 0), 0, 2);
        onTwo(x, 0, x.write(0, 0, written), 1, 2);
        x.read(1, 0);
        Looks.ask(x, ASKS, 0, 1);
        finishStale(x, written);
        return x;
    }

    private static void onTwo(Fleet x, int client, int operation, int a, int b) {
        Looks.bothRounds(x, ASKS, client, a, b);
        DUE.same("ended", x.operation(operation, 4), 1);
    }

    private static void finishStale(Fleet x, int written) {
        int reading = x.client(1, 0);
        moveUnderTheRead(x, 1, 2);
        DUE.same("server 3 has it", x.cell(3, 0, 1), written);
        DUE.same("ended", x.operation(reading, 4), 1);
        DUE.same("with what was overwritten", x.operation(reading, 5), 0);
    }

    private static void moveUnderTheRead(Fleet x, int reader, int mover) {
        x.change(mover, 25);
        Looks.bothRounds(x, 2, mover, 1, 2);
        x.move(mover);
        Looks.ask(x, 4, 1, mover);
        Looks.ask(x, 4, 2, mover);
        Looks.ask(x, 5, 0, mover);
        Looks.ask(x, 5, 3, mover);
        Looks.pass(x, 6, 1, mover);
        x.deliver(Looks.find(x, i -> x.message(i, 0) == ASKS && x.message(i, 1) == 1 && x.message(i, 2) == reader
            && x.message(i, 3) < x.client(reader, 1)));
        x.deliver(x.bag() - 1);
        Looks.ask(x, ASKS, 4, reader);
        Looks.ask(x, TELLS, 3, reader);
        Looks.ask(x, TELLS, 4, reader);
    }

    private static void aReadOfWhatWasOverwrittenIsNotAtomic() {
        Fleet x = stale(5);
        DUE.same("not atomic", x.atomic(0), 0);
        x.read(3, 0);
        Looks.drain(x);
        DUE.same("nor later", x.atomic(0), 0);
    }

    private static void theSameValueWrittenAgainHidesIt() {
        Fleet x = stale(0);
        DUE.same("a written 0 is a 0", x.atomic(0), 1);
    }

    /** The same run, but the write begins behind the read, or a write of 0 that never ends is about. */
    private static void aWriteAtTheSameTimeHidesIt() {
        Fleet x = new Fleet();
        x.begin(5, 7);
        onTwo(x, 1, x.read(1, 0), 0, 2);
        x.read(1, 0);
        onTwo(x, 0, x.write(0, 0, 5), 1, 2);
        Looks.ask(x, ASKS, 0, 1);
        finishStale(x, 5);
        DUE.same("the read may stand ahead of the write", x.atomic(0), 1);

        x = stale(5);
        DUE.same("not atomic", x.atomic(0), 0);
        x.write(3, 0, 0);
        DUE.same("a write of 0 that begins too late does not help", x.atomic(0), 0);

        x = new Fleet();
        x.begin(5, 7);
        onTwo(x, 1, x.read(1, 0), 0, 2);
        x.write(3, 0, 0);
        onTwo(x, 0, x.write(0, 0, 5), 1, 2);
        x.read(1, 0);
        Looks.ask(x, ASKS, 0, 1);
        finishStale(x, 5);
        DUE.same("a write of 0 that has not ended may stand between", x.atomic(0), 1);
    }

    /** "none that ended ahead of another one's begin stands behind it": by one moment, either way. */
    private static void theMomentBeforeAndTheMomentAfter() {
        for (int late = 0; late < 2; late++) {
            Fleet x = new Fleet();
            x.begin(5, 7);
            onTwo(x, 1, x.read(1, 0), 0, 2);
            int writing = x.write(0, 0, 5);
            Looks.ask(x, ASKS, 1, 0);
            Looks.ask(x, ASKS, 2, 0);
            Looks.ask(x, TELLS, 1, 0);
            if (late == 0) {
                x.read(1, 0);
            }
            Looks.ask(x, TELLS, 2, 0);
            if (late == 1) {
                x.read(1, 0);
            }
            DUE.same("the write's end", x.operation(writing, 7), late == 0 ? 5 : 4);
            DUE.same("the read's begin", x.operation(x.client(1, 0), 6), late == 0 ? 4 : 5);
            Looks.ask(x, ASKS, 0, 1);
            finishStale(x, 5);
            DUE.same("atomic", x.atomic(0), late == 0 ? 1 : 0);
        }
    }

    /** The clients have four, four, three and three of them: no other fourteen can stand in as many rows. */
    private static void fourteenThatAreNotAtomic() {
        Fleet x = stale(5);
        for (int c : new int[] {0, 0, 0, 1, 1, 2, 2, 2, 3, 3, 3}) {
            DUE.same("not atomic", x.atomic(0), 0);
            x.read(c, 0);
            x.run(c, 1000);
        }
        DUE.same("began, a change and a move among them", x.count(0), 16);
        DUE.same("fourteen", x.atomic(0), 0);
        x.read(0, 0);
        DUE.same("fifteen", x.atomic(0), -1);
    }

    /** Operations ahead of a stale read, beside it and behind it, with few values, so that some hide it. */
    private static Fleet drawnAroundAStaleRead(Random random) {
        List<Integer> clients = new ArrayList<>(List.of(0, 1, 2, 3));
        Collections.shuffle(clients, random);
        int reader = clients.get(0);
        int mover = clients.get(1);
        Fleet x = new Fleet();
        x.begin(5, 7);
        if (random.nextInt(3) == 0) {
            x.write(clients.get(3), 0, random.nextInt(4));
            Looks.loseAll(x);
        }
        for (int n = random.nextInt(4); n > 0; n--) {
            drawnOperation(x, random, random.nextInt(4));
            x.run(n, 1000);
        }
        onTwo(x, reader, x.read(reader, 0), 0, 2);
        boolean early = random.nextInt(3) == 0;
        if (early) {
            x.read(reader, 0);
        }
        for (int n = 1 + random.nextInt(3); n > 0; n--) {
            drawnOnServers1And2(x, random, clients.get(random.nextInt(3) == 0 ? 3 : 2));
        }
        if (!early) {
            x.read(reader, 0);
        }
        Looks.ask(x, ASKS, 0, reader);
        moveUnderTheRead(x, reader, mover);
        for (int n = random.nextInt(4); n > 0; n--) {
            drawnOperation(x, random, random.nextInt(4));
            x.run(n, random.nextInt(30));
        }
        return x;
    }

    private static int drawnOperation(Fleet x, Random random, int c) {
        return random.nextInt(3) == 0 ? x.read(c, 0) : x.write(c, 0, random.nextInt(4));
    }

    /** It may be left in its second round. */
    private static void drawnOnServers1And2(Fleet x, Random random, int c) {
        if (drawnOperation(x, random, c) < 0) {
            return;
        }
        int last = random.nextInt(4) == 0 ? ASKS : TELLS;
        for (int kind = ASKS; kind <= last; kind++) {
            Looks.ask(x, kind, 1, c);
            Looks.ask(x, kind, 2, c);
        }
    }

    private static void aSecondSearchFindsTheSame() {
        int[] found = new int[2];
        for (int seed = 0; seed < 1500; seed++) {
            Fleet x = drawnAroundAStaleRead(new Random(seed));
            List<Row.Entry> all = new ArrayList<>();
            for (int n = 0; n < x.count(0); n++) {
                int kind = x.operation(n, 0);
                if (kind <= 1) {
                    int value = kind == 1 ? x.operation(n, 3) : x.operation(n, 5);
                    all.add(new Row.Entry(kind == 1, value, x.operation(n, 6), x.operation(n, 7)));
                }
            }
            int want = Row.canBePut(all) ? 1 : 0;
            DUE.same("run " + seed, x.atomic(0), want);
            found[want]++;
        }
        DUE.yes("not atomic: " + found[0], found[0] > 100);
        DUE.yes("atomic: " + found[1], found[1] > 100);
    }
}
