/** Promises 7 (bag), 8 (message), 9 (deliver), 10 (lose) and 11 (run). */
public final class BagTest {
    private static final Due DUE = new Due("BagTest");

    private BagTest() {
    }

    public static void main(String[] args) {
        theBagGrowsAndShrinks();
        thoseBehindMoveUp();
        messagesThatAreNotThere();
        aMessageKeepsTheMapItWasSentWith();
        aServerJoinsAheadOfItsAnswer();
        deliverToWhoHasStopped();
        runDeliversInTheDrawnOrder();
        runKeepsToItsNumber();
        runCountsWhatNobodyGot();
        DUE.end();
    }

    private static void theBagGrowsAndShrinks() {
        Fleet x = new Fleet();
        DUE.same("empty", x.bag(), 0);
        x.read(0, 0);
        DUE.same("three asks", x.bag(), 3);
        x.deliver(0);
        DUE.same("an ask is gone, an answer came", x.bag(), 3);
        x.deliver(2);
        DUE.same("an answer is gone", x.bag(), 2);
        DUE.yes("lose", x.lose(1));
        DUE.same("one less", x.bag(), 1);
        x.begin(7, 127);
        DUE.same("anew", x.bag(), 0);
        x.write(3, 0, 1);
        DUE.same("seven asks", x.bag(), 7);
    }

    private static void thoseBehindMoveUp() {
        Fleet x = new Fleet();
        x.begin(5, 31);
        x.read(0, 1);
        x.lose(1);
        int[] left = {0, 2, 3, 4};
        for (int i = 0; i < left.length; i++) {
            DUE.same("server of " + i, x.message(i, 1), left[i]);
        }
        DUE.same("deliver", x.deliver(2), 1);
        int[] kinds = {0, 0, 0, 10};
        int[] servers = {0, 2, 4, 3};
        for (int i = 0; i < kinds.length; i++) {
            DUE.same("kind of " + i, x.message(i, 0), kinds[i]);
            DUE.same("server of " + i, x.message(i, 1), servers[i]);
        }
        DUE.same("lost for good: asked", x.client(0, 2), 31);
        Looks.drain(x);
        DUE.same("four of five are enough", x.operation(0, 4), 1);
    }

    private static void messagesThatAreNotThere() {
        Fleet x = new Fleet();
        int[] wrong = {-1, 0, 1, Integer.MIN_VALUE, Integer.MAX_VALUE};
        for (int i : wrong) {
            DUE.same("message " + i, x.message(i, 0), -2);
            DUE.same("deliver " + i, x.deliver(i), -1);
            DUE.no("lose " + i, x.lose(i));
        }
        x.read(0, 0);
        for (int i : new int[] {-1, 3, 4, Integer.MIN_VALUE, Integer.MAX_VALUE}) {
            DUE.same("message " + i, x.message(i, 0), -2);
            DUE.same("deliver " + i, x.deliver(i), -1);
            DUE.no("lose " + i, x.lose(i));
        }
        for (int what : new int[] {-1, 14, 15, Integer.MIN_VALUE, Integer.MAX_VALUE}) {
            DUE.same("what " + what, x.message(0, what), -2);
        }
        DUE.same("bag", x.bag(), 3);
        DUE.same("delivered", x.count(4), 0);
    }

    private static void aMessageKeepsTheMapItWasSentWith() {
        Fleet x = new Fleet();
        x.read(1, 0);
        x.change(0, 5);
        Looks.ask(x, 2, 0, 0);
        Looks.ask(x, 2, 1, 0);
        Looks.ask(x, 3, 0, 0);
        Looks.ask(x, 3, 1, 0);
        Looks.pass(x, 6, 2, 0);
        DUE.row("server 2's map", Looks.map(x, false, 2), 7, 5, 0, 0, 0, 0);
        Looks.pass(x, 0, 0, 1);
        DUE.row("server 0's answer", Looks.messageMap(x, x.bag() - 1), 7, 0, 0, 0, 0, 0);
        Looks.pass(x, 6, 0, 0);
        DUE.row("server 0's map now", Looks.map(x, false, 0), 7, 5, 0, 0, 0, 0);
        DUE.row("server 0's answer still", Looks.messageMap(x, x.bag() - 1), 7, 0, 0, 0, 0, 0);
        Looks.pass(x, 0, 2, 1);
        Looks.pass(x, 10, 2, 1);
        DUE.row("client 1's map", Looks.map(x, true, 1), 7, 5, 0, 0, 0, 0);
        int ask = Looks.find(x, i -> x.message(i, 0) == 0 && x.message(i, 2) == 1);
        DUE.row("client 1's first ask", Looks.messageMap(x, ask), 7, 0, 0, 0, 0, 0);
    }

    private static void aServerJoinsAheadOfItsAnswer() {
        Fleet x = new Fleet();
        x.change(0, 6);
        Looks.drain(x);
        x.begin(3, 7);
        x.change(0, 6);
        Looks.bothRounds(x, 2, 0, 0, 1);
        Looks.loseAll(x);
        x.read(0, 0);
        DUE.row("server 2 does not know", Looks.map(x, false, 2), 7, 0, 0, 0, 0, 0);
        Looks.pass(x, 0, 2, 0);
        DUE.row("server 2 knows", Looks.map(x, false, 2), 7, 6, 0, 0, 0, 0);
        DUE.row("and says so", Looks.messageMap(x, x.bag() - 1), 7, 6, 0, 0, 0, 0);
    }

    private static void deliverToWhoHasStopped() {
        Fleet x = new Fleet();
        x.write(0, 0, 3);
        x.stop(false, 1);
        DUE.same("to a stopped server", x.deliver(1), 0);
        DUE.same("it is gone without an answer", x.bag(), 2);
        DUE.same("to another one", x.deliver(0), 1);
        x.stop(true, 0);
        DUE.same("to a stopped client", x.deliver(1), 0);
        DUE.same("gone", x.bag(), 1);
        DUE.same("it did not count", x.client(0, 3), 0);
        DUE.same("a stopped client's ask", x.deliver(0), 1);
        DUE.same("delivered to somebody", x.count(4), 2);
        DUE.same("ever in the bag", x.count(3), 5);
    }

    private static Fleet busy() {
        Fleet x = new Fleet();
        x.begin(5, 31);
        x.write(0, 0, 1);
        x.read(1, 0);
        x.change(2, 7);
        x.change(3, 28);
        return x;
    }

    private static boolean alike(Fleet a, Fleet b) {
        boolean same = a.bag() == b.bag();
        for (int i = 0; i < a.bag(); i++) {
            for (int what = 0; what < 14; what++) {
                same &= a.message(i, what) == b.message(i, what);
            }
        }
        for (int n = 0; n < 4; n++) {
            for (int what = 0; what < 9; what++) {
                same &= a.operation(n, what) == b.operation(n, what);
            }
        }
        return same;
    }

    private static void runDeliversInTheDrawnOrder() {
        int[] seeds = {0, 1, -1, 12345, 999_999_999, Integer.MIN_VALUE, Integer.MAX_VALUE};
        for (int seed : seeds) {
            Fleet x = busy();
            Fleet y = busy();
            int drawn = seed;
            int done = 0;
            while (done < 1000 && y.bag() > 0) {
                drawn = drawn * 1103515245 + 12345;
                y.deliver((drawn >>> 16) % y.bag());
                done++;
                if (done == 17) {
                    DUE.same("up to 17", x.run(seed, 17), 17);
                    DUE.yes("the same after 17 by " + seed, alike(x, y));
                    x = busy();
                }
            }
            DUE.same("all by " + seed, x.run(seed, 1000), done);
            DUE.yes("the same at the end by " + seed, alike(x, y));
        }
        Fleet x = new Fleet();
        x.begin(7, 127);
        x.read(0, 0);
        x.run(1, 1);
        // 1 * 1103515245 + 12345 is 1103527590, by 65536 it is 16838, and that modulo 7 is 3.
        DUE.same("server 3 got the first", x.message(6, 1), 3);
    }

    private static void runKeepsToItsNumber() {
        Fleet x = busy();
        for (int n : new int[] {-1, 1001, Integer.MIN_VALUE, Integer.MAX_VALUE}) {
            DUE.same("run " + n, x.run(1, n), -1);
        }
        DUE.same("run 0", x.run(1, 0), 0);
        DUE.same("nothing was delivered", x.count(4), 0);
        DUE.same("run 1", x.run(1, 1), 1);
        DUE.same("delivered", x.count(4), 1);
        DUE.same("run 2", x.run(1, 2), 2);
        DUE.same("delivered", x.count(4), 3);
        int rest = x.run(1, 1000);
        DUE.same("delivered", x.count(4), 3 + rest);
        DUE.same("the bag is empty", x.bag(), 0);
        DUE.same("an empty bag", x.run(1, 1000), 0);
    }

    private static void runCountsWhatNobodyGot() {
        Fleet x = new Fleet();
        x.read(0, 0);
        for (int s = 0; s < 3; s++) {
            x.stop(false, s);
        }
        DUE.same("three that nobody got", x.run(5, 1000), 3);
        DUE.same("delivered to somebody", x.count(4), 0);
        DUE.same("bag", x.bag(), 0);
    }
}
