/** Promise 19 (atomic). */
public final class AtomicTest {
    private static final Due DUE = new Due("AtomicTest");
    private static final int ASKS = 0;
    private static final int TELLS = 1;

    private AtomicTest() {
    }

    public static void main(String[] args) {
        registersThatAreNotThere();
        fourteenAtMost();
        eachRegisterIsLookedAtAlone();
        aWriteThatDidNotEndMayStandInTheRow();
        aReadThatDidNotEndHasNoPlace();
        operationsAtTheSameTimeMayStandEitherWay();
        theWidestRowFits();
        aReadOfWhatWasOverwrittenIsNotAtomic();
        theSameValueWrittenAgainHidesIt();
        aWriteAtTheSameTimeHidesIt();
        DUE.end();
    }

    private static void registersThatAreNotThere() {
        Fleet x = new Fleet();
        for (int r : new int[] {-1, 3, 4, Integer.MIN_VALUE, Integer.MAX_VALUE}) {
            DUE.same("register " + r, x.atomic(r), -1);
        }
        for (int r = 0; r < 3; r++) {
            DUE.same("nothing began on " + r, x.atomic(r), 1);
        }
    }

    private static void fourteenAtMost() {
        Fleet x = new Fleet();
        for (int n = 0; n < 14; n++) {
            if (n % 3 == 0) {
                x.write(n % 4, 1, n);
            } else {
                x.read(n % 4, 1);
            }
            Looks.drain(x);
            DUE.same("after " + n, x.atomic(1), 1);
        }
        x.read(0, 0);
        x.change(1, 3);
        Looks.drain(x);
        DUE.same("others do not count", x.atomic(1), 1);
        x.read(2, 1);
        DUE.same("a fifteenth that only began", x.atomic(1), -1);
        Looks.drain(x);
        DUE.same("and ended", x.atomic(1), -1);
        DUE.same("another register", x.atomic(0), 1);
        x.begin(3, 7);
        DUE.same("anew", x.atomic(1), 1);
        for (int n = 0; n < 15; n++) {
            x.write(0, 2, n);
            Looks.drain(x);
        }
        DUE.same("fifteen writes", x.atomic(2), -1);
    }

    private static void eachRegisterIsLookedAtAlone() {
        Fleet x = stale(5);
        int[] want = {0, 1, 1};
        for (int r = 0; r < 3; r++) {
            DUE.same("register " + r, x.atomic(r), want[r]);
        }
        x.write(3, 1, 5);
        Looks.drain(x);
        x.read(3, 1);
        Looks.drain(x);
        DUE.same("register 1", x.atomic(1), 1);
        DUE.same("register 0 stays so", x.atomic(0), 0);
    }

    private static void aWriteThatDidNotEndMayStandInTheRow() {
        for (int seen = 0; seen < 2; seen++) {
            Fleet x = new Fleet();
            x.write(0, 0, 9);
            Looks.ask(x, ASKS, 0, 0);
            Looks.ask(x, ASKS, 1, 0);
            Looks.pass(x, TELLS, 0, 0);
            x.stop(true, 0);
            Looks.loseAll(x);
            x.read(1, 0);
            x.lose(seen == 1 ? 2 : 0);
            Looks.drain(x);
            DUE.same("read", x.operation(1, 5), seen == 1 ? 9 : 0);
            DUE.same("atomic", x.atomic(0), 1);
        }
    }

    private static void aReadThatDidNotEndHasNoPlace() {
        Fleet x = new Fleet();
        x.read(0, 0);
        DUE.same("nothing ended", x.atomic(0), 1);
        x.write(1, 0, 4);
        for (int kind = ASKS; kind <= TELLS; kind++) {
            Looks.ask(x, kind, 0, 1);
            Looks.ask(x, kind, 1, 1);
        }
        DUE.same("a write ended", x.atomic(0), 1);
        x.stop(true, 0);
        x.read(2, 0);
        Looks.drain(x);
        DUE.same("read", x.operation(2, 5), 4);
        DUE.same("the first read waits for good", x.operation(0, 4), 0);
        DUE.same("atomic", x.atomic(0), 1);
    }

    private static void operationsAtTheSameTimeMayStandEitherWay() {
        for (int seed = 0; seed < 50; seed++) {
            Fleet x = new Fleet();
            x.begin(5, 31);
            for (int turn = 0; turn < 3; turn++) {
                x.write(0, 0, 10 + turn);
                x.write(1, 0, 20 + turn);
                x.read(2, 0);
                x.read(3, 0);
                x.run(seed, 1000);
            }
            DUE.same("ended", x.count(1), 12);
            DUE.same("atomic by " + seed, x.atomic(0), 1);
        }
    }

    private static void theWidestRowFits() {
        Fleet x = new Fleet();
        for (int turn = 0; turn < 3; turn++) {
            for (int c = 0; c < 4; c++) {
                x.write(c, 0, 10 * turn + c);
            }
            x.run(turn, 1000);
        }
        x.read(0, 0);
        x.read(1, 0);
        x.run(9, 1000);
        DUE.same("fourteen ended", x.count(1), 14);
        DUE.same("four, four, three and three", x.atomic(0), 1);
    }

    /**
     * A read that counts an answer from before the move for a set of after it: client 1 hears
     * server 0 first, all is then moved by way of others to servers 0 and 3, and a late answer of a
     * former round tells it to ask servers 3 and 4 too. Server 4's answer makes it full.
     */
    private static Fleet stale(int written) {
        Fleet x = new Fleet();
        x.begin(5, 7);
        onTwo(x, 1, x.read(1, 0), 0, 2);
        onTwo(x, 0, x.write(0, 0, written), 1, 2);
        x.read(1, 0);
        Looks.ask(x, ASKS, 0, 1);
        finishStale(x, written);
        return x;
    }

    private static void onTwo(Fleet x, int client, int operation, int a, int b) {
        for (int kind = ASKS; kind <= TELLS; kind++) {
            Looks.ask(x, kind, a, client);
            Looks.ask(x, kind, b, client);
        }
        DUE.same("ended", x.operation(operation, 4), 1);
    }

    private static void finishStale(Fleet x, int written) {
        int reading = x.client(1, 0);
        x.change(2, 25);
        for (int kind = 2; kind <= 3; kind++) {
            Looks.ask(x, kind, 1, 2);
            Looks.ask(x, kind, 2, 2);
        }
        x.move(2);
        Looks.ask(x, 4, 1, 2);
        Looks.ask(x, 4, 2, 2);
        Looks.ask(x, 5, 0, 2);
        Looks.ask(x, 5, 3, 2);
        DUE.same("server 3 has it", x.cell(3, 0, 1), written);
        Looks.pass(x, 6, 1, 2);
        x.deliver(Looks.find(x, i -> x.message(i, 0) == ASKS && x.message(i, 1) == 1 && x.message(i, 3) == 1
            && x.message(i, 2) == 1));
        x.deliver(x.bag() - 1);
        Looks.ask(x, ASKS, 4, 1);
        Looks.ask(x, TELLS, 3, 1);
        Looks.ask(x, TELLS, 4, 1);
        DUE.same("ended", x.operation(reading, 4), 1);
        DUE.same("with what was overwritten", x.operation(reading, 5), 0);
    }

    private static void aReadOfWhatWasOverwrittenIsNotAtomic() {
        Fleet x = stale(5);
        DUE.same("not atomic", x.atomic(0), 0);
        x.read(3, 0);
        Looks.drain(x);
        DUE.same("nor later", x.atomic(0), 0);
    }

    private static void theSameValueWrittenAgainHidesIt() {
        Fleet x = stale(0);
        DUE.same("a written 0 is a 0", x.atomic(0), 1);
    }

    /** The same run, but the write begins behind the read, or a write of 0 that never ends is about. */
    private static void aWriteAtTheSameTimeHidesIt() {
        Fleet x = new Fleet();
        x.begin(5, 7);
        onTwo(x, 1, x.read(1, 0), 0, 2);
        x.read(1, 0);
        onTwo(x, 0, x.write(0, 0, 5), 1, 2);
        Looks.ask(x, ASKS, 0, 1);
        finishStale(x, 5);
        DUE.same("the read may stand ahead of the write", x.atomic(0), 1);

        x = stale(5);
        DUE.same("not atomic", x.atomic(0), 0);
        x.write(3, 0, 0);
        DUE.same("a write of 0 that begins too late does not help", x.atomic(0), 0);

        x = new Fleet();
        x.begin(5, 7);
        onTwo(x, 1, x.read(1, 0), 0, 2);
        x.write(3, 0, 0);
        onTwo(x, 0, x.write(0, 0, 5), 1, 2);
        x.read(1, 0);
        Looks.ask(x, ASKS, 0, 1);
        finishStale(x, 5);
        DUE.same("a write of 0 that has not ended may stand between", x.atomic(0), 1);
    }
}
