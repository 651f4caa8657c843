import java.math.BigInteger;
import java.util.Random;

/** The numbers of the document that a run of calls has to reach: 512 calls, 1000 deliveries, nine bad answers, a seed that wraps. */
public final class LimitTest {
    private static final Due DUE = new Due("LimitTest");
    private static final int PREPARES = 2;
    private static final int OFFERS = 3;
    private static final int NEWS = 6;
    private static final BigInteger WRAP = BigInteger.ONE.shiftLeft(32);

    private LimitTest() {
    }

    public static void main(String[] args) {
        all512CallsAnswerAsDue();
        laterCallsEnd();
        runDeliversAThousand();
        runEndsWithTheBag();
        aSeedWraps();
        aSeedGoesOnFromMessageToMessage();
        eightBadAnswersBeginAnew();
        theNinthBadAnswerEndsTheChange();
        theNinthMayBeABadOffer();
        aMapEndsAheadOfTheNinth();
        badAnswersOfFormerRoundsDoNotCount();
        eachChangeCountsItsOwn();
        DUE.end();
    }

    /** "An object is used for at most 512 calls after it has been made". */
    private static void all512CallsAnswerAsDue() {
        for (int seed = 0; seed < 40; seed++) {
            Random random = new Random(seed);
            RegisterFleet x = new RegisterFleet();
            FleetModel y = new FleetModel();
            for (int call = 1; call <= Fleet.MOST_CALLS; call++) {
                drawnCall("call " + call + " of run " + seed, random, x, y);
            }
        }
        RegisterFleet x = new RegisterFleet();
        for (int call = 1; call < Fleet.MOST_CALLS; call++) {
            x.begin(7, 127);
        }
        DUE.same("the 512th", x.read(3, 2), 0);
        x = new RegisterFleet();
        x.write(0, 0, 5);
        for (int call = 2; call < Fleet.MOST_CALLS; call++) {
            x.run(1, call % 2);
        }
        DUE.same("the 512th", x.operation(0, 5), 5);
    }

    private static void drawnCall(String call, Random random, RegisterFleet x, FleetModel y) {
        int c = random.nextInt(5);
        int r = random.nextInt(4);
        int i = random.nextInt(20) - 1;
        switch (random.nextInt(18)) {
            case 0 -> DUE.same(call, x.read(c, r), y.read(c, r));
            case 1 -> DUE.same(call, x.write(c, r, i), y.write(c, r, i));
            case 2 -> DUE.same(call, x.change(c, i), y.change(c, i));
            case 3 -> DUE.same(call, x.move(c), y.move(c));
            case 4 -> DUE.same(call, x.bag(), y.bag());
            case 5 -> DUE.same(call, x.message(i, r + c), y.message(i, r + c));
            case 6 -> DUE.same(call, x.message(i, 8 + r + c), y.message(i, 8 + r + c));
            case 7, 8, 9 -> DUE.same(call, x.deliver(i), y.deliver(i));
            case 10 -> DUE.same(call, x.lose(i % 3) ? 1 : 0, y.lose(i % 3) ? 1 : 0);
            case 11 -> DUE.same(call, x.run(i, i), y.run(i, i));
            case 12 -> DUE.same(call, x.map(r > 1, c, i % 7), y.map(r > 1, c, i % 7));
            case 13 -> DUE.same(call, x.cell(c, r, i % 3), y.cell(c, r, i % 3));
            case 14 -> DUE.same(call, x.vote(c, r, i % 4), y.vote(c, r, i % 4));
            case 15 -> DUE.same(call, x.client(c, i % 8), y.client(c, i % 8));
            case 16 -> DUE.same(call, x.operation(i, r + c), y.operation(i, r + c));
            default -> rareCall(call, random, x, y);
        }
    }

    private static void rareCall(String call, Random random, RegisterFleet x, FleetModel y) {
        int s = random.nextInt(9);
        boolean client = random.nextBoolean();
        switch (random.nextInt(30)) {
            case 0 -> DUE.same(call, x.stop(client, s) ? 1 : 0, y.stop(client, s) ? 1 : 0);
            case 1 -> DUE.same(call, x.begin(s, 3 * s) ? 1 : 0, y.begin(s, 3 * s) ? 1 : 0);
            case 2, 3, 4, 5, 6 -> DUE.same(call, x.atomic(s % 4), y.atomic(s % 4));
            default -> DUE.same(call, x.count(s - 2), y.count(s - 2));
        }
    }

    /** "what later calls answer is free", but the language lets none throw or fail to end. */
    private static void laterCallsEnd() {
        Random random = new Random(512);
        RegisterFleet x = new RegisterFleet();
        int answers = 0;
        for (int call = 0; call < 60_000; call++) {
            int a = random.nextInt(40) - 2;
            int b = random.nextInt(40) - 2;
            switch (random.nextInt(12)) {
                case 0 -> x.read(a % 5, b % 4);
                case 1 -> x.write(a % 5, b % 4, call);
                case 2 -> x.change(a % 5, b);
                case 3 -> x.move(a % 5);
                case 4 -> x.run(call, 100);
                case 5 -> x.deliver(a);
                case 6 -> x.atomic(a % 4);
                case 7 -> x.message(a, b);
                case 8 -> x.operation(a, b);
                case 9 -> x.client(a % 5, b);
                case 10 -> x.map(a > 9, a % 8, b);
                default -> x.begin(call % 300 == 0 ? 7 : 1, 127);
            }
            answers++;
        }
        DUE.same("all answered", answers, 60_000);
    }

    /**
     * More than a thousand can be delivered: at one server after the other the client with the
     * greatest ballot comes first, and the others' bad answers let them ask all seven anew.
     */
    private static Fleet crowded() {
        Fleet x = new Fleet();
        x.begin(7, 127);
        for (int turn = 0; turn < 36; turn++) {
            int first = 0;
            for (int c = 0; c < 4; c++) {
                if (x.client(c, 0) < 0) {
                    x.change(c, 1);
                }
                first = x.client(c, 5) > x.client(first, 5) ? c : first;
            }
            Looks.pass(x, PREPARES, turn % 7, first);
            for (int c = 0; c < 4; c++) {
                if (c != first) {
                    Looks.ask(x, PREPARES, turn % 7, c);
                }
            }
        }
        return x;
    }

    /** "MESSAGES are delivered in a drawn order, up to n (0 .. 1000)". */
    private static void runDeliversAThousand() {
        Fleet x = crowded();
        int before = x.count(4);
        Fleet y = x.twin();
        Fleet z = x.twin();
        DUE.same("a thousand", x.run(5, 1000), 1000);
        DUE.yes("some are left", x.bag() > 1);
        DUE.same("delivered", x.count(4), before + 1000);
        DUE.same("one less", y.run(5, 999), 999);
        DUE.same("delivered", y.count(4), before + 999);
        int seed = 5;
        for (int i = 0; i < 1000; i++) {
            seed = next(seed);
        }
        DUE.same("the thousandth", y.deliver(place(seed, y.bag())), 1);
        DUE.alike("999 and the next", y, x);
        DUE.same("no more than a thousand", z.run(5, 1001), -1);
        DUE.same("none was delivered", z.count(4), before);
    }

    /** "till there is none, or n are: how many". */
    private static void runEndsWithTheBag() {
        for (int n = 0; n <= 12; n++) {
            Fleet x = new Fleet();
            x.begin(3, 1);
            x.read(0, 0);
            x.read(1, 0);
            DUE.same("eight in all, up to " + n, x.run(n, n), Math.min(n, 8));
            DUE.same("delivered", x.count(4), Math.min(n, 8));
            DUE.same("none is left", x.bag() == 0 ? 1 : 0, n >= 8 ? 1 : 0);
        }
    }

    private static int next(int seed) {
        return BigInteger.valueOf(seed).multiply(BigInteger.valueOf(1103515245)).add(BigInteger.valueOf(12345)).intValue();
    }

    private static int place(int seed, int bag) {
        BigInteger unsigned = BigInteger.valueOf(seed).mod(WRAP);
        return unsigned.divide(BigInteger.valueOf(65536)).mod(BigInteger.valueOf(bag)).intValue();
    }

    /** "seed becomes seed * 1103515245 + 12345 (an int, it wraps), and that at place (seed >>> 16) modulo bag()". */
    private static void aSeedWraps() {
        // Worked out by hand: 0 gives 12345, 1 gives 1103527590, 2 goes beyond an int and gives -2087924461,
        // 4 goes beyond 2 to the 32 and gives 119106029, -1 gives -1103502900.
        int[][] drawn = {{0, 12345, 0}, {1, 1103527590, 3}, {2, -2087924461, 6}, {4, 119106029, 4}, {-1, -1103502900, 5}};
        for (int[] each : drawn) {
            DUE.same("seed " + each[0], next(each[0]), each[1]);
            DUE.same("place by " + each[0], place(each[1], 7), each[2]);
        }
        int[] seeds = {
            0, 1, 2, 3, 4, 5, 6, 7, -1, -2, -3, 65535, 65536, -65536, 1 << 30, Integer.MAX_VALUE - 1, Integer.MAX_VALUE,
            Integer.MIN_VALUE, Integer.MIN_VALUE + 1};
        for (int seed : seeds) {
            for (int size = 1; size <= 7; size++) {
                Fleet x = new Fleet();
                x.begin(7, (1 << size) - 1);
                x.read(0, 0);
                DUE.same("one by " + seed, x.run(seed, 1), 1);
                DUE.same("which of " + size + " by " + seed, x.message(size - 1, 1), place(next(seed), size));
            }
        }
    }

    private static void aSeedGoesOnFromMessageToMessage() {
        for (int seed : new int[] {0, 2, 4, -1, 77, Integer.MAX_VALUE, Integer.MIN_VALUE}) {
            Fleet x = States.underWay();
            Fleet y = x.twin();
            int left = seed;
            for (int i = 0; i < 25; i++) {
                left = next(left);
                y.deliver(place(left, y.bag()));
            }
            DUE.same("25 by " + seed, x.run(seed, 25), 25);
            DUE.alike("25 by " + seed, x, y);
            x.run(seed, 3);
            left = seed;
            for (int i = 0; i < 3; i++) {
                left = next(left);
                y.deliver(place(left, y.bag()));
            }
            DUE.alike("each run has its own seed", x, y);
        }
    }

    /** "A bad answer that counts: AGAIN: ROUND 1 begins anew (all are asked anew)". */
    private static void eightBadAnswersBeginAnew() {
        for (int bad = 1; bad <= 8; bad++) {
            Fleet x = States.beaten(bad);
            DUE.row("the change", Looks.operation(x, 0), 2, 0, 3, 0, 0, 0, 1, 0, bad);
            DUE.row("the client", Looks.client(x, 0), 0, bad + 1, 7, 0, 1, 8 * bad, 0);
            for (int s = 0; s < 3; s++) {
                DUE.row("asked anew", Looks.message(x, x.bag() - 3 + s), PREPARES, s, 0, bad + 1, 0, 8 * bad, 0, 0);
            }
        }
    }

    /** "the ninth one: it has ended, with 0". */
    private static void theNinthBadAnswerEndsTheChange() {
        Fleet x = States.beaten(8);
        Looks.ask(x, PREPARES, 2, 0);
        Looks.ask(x, PREPARES, 2, 1);
        Looks.ask(x, PREPARES, 1, 1);
        Looks.pass(x, PREPARES, 1, 0);
        int before = x.bag();
        DUE.same("a bad answer", x.message(before - 1, 7), 1);
        Looks.pass(x, 12, 1, 0);
        DUE.row("the change", Looks.operation(x, 0), 2, 0, 3, 0, 1, 0, 1, 3, 9);
        DUE.row("the client", Looks.client(x, 0), -1, 9, 0, 0, 0, 0, 0);
        DUE.same("nobody is asked", x.bag(), before - 1);
        DUE.same("its rival goes on", x.operation(1, 4), 0);
        DUE.same("moments", x.count(2), 3);
        DUE.same("it may begin anew", x.change(0, 3), 2);
        DUE.same("with none", x.operation(2, 8), 0);
    }

    /** Client 0's last bad answer is to OFFERS: its rival has promises beyond it. */
    private static void theNinthMayBeABadOffer() {
        Fleet x = States.beaten(8);
        Looks.ask(x, PREPARES, 0, 0);
        Looks.ask(x, PREPARES, 2, 0);
        DUE.same("the second round", x.client(0, 4), 2);
        Looks.ask(x, PREPARES, 2, 1);
        Looks.ask(x, PREPARES, 1, 1);
        Looks.pass(x, OFFERS, 1, 0);
        int before = x.bag();
        DUE.same("a bad answer", x.message(before - 1, 7), 1);
        Looks.pass(x, 13, 1, 0);
        DUE.row("the change", Looks.operation(x, 0), 2, 0, 3, 0, 1, 0, 1, 3, 9);
        DUE.same("nobody is asked", x.bag(), before - 1);
    }

    /** "8 how many bad answers counted (each by AGAIN, the ninth too; none by whose MAP it ENDS)". */
    private static void aMapEndsAheadOfTheNinth() {
        for (int bad : new int[] {1, 7, 8}) {
            for (int set : new int[] {3, 4}) {
                Fleet x = set == 3 ? thirdAgrees(bad) : rivalAgrees(bad);
                Looks.pass(x, PREPARES, 1, 0);
                DUE.same("a bad answer", x.message(x.bag() - 1, 7), 1);
                DUE.same("with a map", x.message(x.bag() - 1, 9), set);
                int ends = x.count(2) + 1;
                Looks.pass(x, 12, 1, 0);
                DUE.row("the change", Looks.operation(x, 0), 2, 0, 3, 0, 1, set == 3 ? 1 : 0, 1, ends, bad);
            }
        }
    }

    /** Its rival's set is agreed on, and server 1 knows. */
    private static Fleet rivalAgrees(int bad) {
        Fleet x = States.beaten(bad);
        Looks.ask(x, PREPARES, 2, 0);
        Looks.ask(x, PREPARES, 2, 1);
        Looks.bothRounds(x, PREPARES, 1, 1, 2);
        Looks.pass(x, NEWS, 1, 1);
        return x;
    }

    /** Another client's change to the same set is agreed on by a greater ballot, and server 1 knows. */
    private static Fleet thirdAgrees(int bad) {
        Fleet x = States.beaten(bad);
        x.change(3, 3);
        Looks.ask(x, PREPARES, 1, 3);
        Looks.ask(x, PREPARES, 1, 1);
        Looks.ask(x, PREPARES, 2, 0);
        Looks.ask(x, PREPARES, 2, 3);
        Looks.bothRounds(x, PREPARES, 3, 1, 2);
        Looks.pass(x, NEWS, 1, 3);
        return x;
    }

    /** "an answer counts if it is of the ROUND at hand". */
    private static void badAnswersOfFormerRoundsDoNotCount() {
        Fleet x = States.beaten(8);
        int late = Looks.find(x, i -> x.message(i, 0) == PREPARES && x.message(i, 1) == 2 && x.message(i, 2) == 0);
        DUE.same("a question of a former round", x.message(late, 3) < x.client(0, 1) ? 1 : 0, 1);
        x.deliver(late);
        DUE.same("a bad answer", x.message(x.bag() - 1, 7), 1);
        Fleet y = x.twin();
        x.deliver(x.bag() - 1);
        y.lose(y.bag() - 1);
        DUE.same("still eight", x.operation(0, 8), 8);
        DUE.row("the client is as it was", Looks.client(x, 0), Looks.client(y, 0));
        DUE.same("nobody is asked", x.bag(), y.bag());
    }

    private static void eachChangeCountsItsOwn() {
        Fleet x = States.beaten(9);
        DUE.same("the rival's", x.operation(1, 8), 8);
        Looks.loseAll(x);
        x.change(0, 3);
        for (int s = 0; s < 2; s++) {
            Looks.ask(x, PREPARES, s, 0);
            DUE.same("the next change's", x.operation(2, 8), s + 1);
        }
        DUE.same("the first one's stays", x.operation(0, 8), 9);
    }
}
