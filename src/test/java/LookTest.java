/** Promises 12 (stop), 13 (map), 14 (cell), 15 (vote), 16 (client), 17 (operation) and 18 (count). */
public final class LookTest {
    private static final Due DUE = new Due("LookTest");
    private static final int LEAST = Integer.MIN_VALUE;
    private static final int MOST = Integer.MAX_VALUE;

    private LookTest() {
    }

    public static void main(String[] args) {
        stopsAreForGood();
        aStoppedClientKeepsItsOperation();
        aStoppedServerShowsWhatItHad();
        maps();
        cells();
        votes();
        clients();
        roundsAreNumberedThroughAllOperations();
        operations();
        momentsGoOnWithEachBeginAndEnd();
        counts();
        DUE.end();
    }

    private static void stopsAreForGood() {
        Fleet x = new Fleet();
        x.begin(5, 31);
        for (int s : new int[] {-1, 5, 7, LEAST, MOST}) {
            DUE.no("server " + s, x.stop(false, s));
        }
        for (int c : new int[] {-1, 4, 7, LEAST, MOST}) {
            DUE.no("client " + c, x.stop(true, c));
        }
        DUE.yes("server 4", x.stop(false, 4));
        DUE.no("server 4 again", x.stop(false, 4));
        DUE.yes("client 3", x.stop(true, 3));
        DUE.no("client 3 again", x.stop(true, 3));
        DUE.yes("server 3 is another one", x.stop(false, 3));
        DUE.same("client 3 has stopped", x.client(3, 6), 1);
        DUE.same("client 2 has not", x.client(2, 6), 0);
        x.read(0, 0);
        DUE.same("stopped servers are asked", x.bag(), 5);
        DUE.same("to server 4", x.deliver(4), 0);
        Looks.drain(x);
        DUE.same("three of five are left", x.operation(0, 4), 1);
        DUE.yes("server 0", x.stop(false, 0));
        x.read(0, 0);
        Looks.drain(x);
        DUE.same("two of five are not enough", x.operation(1, 4), 0);
        DUE.same("it waits", x.client(0, 0), 1);
        x.begin(5, 31);
        DUE.yes("anew nobody has", x.stop(false, 4) && x.stop(true, 3));
    }

    private static void aStoppedClientKeepsItsOperation() {
        Fleet x = new Fleet();
        x.write(1, 0, 8);
        Looks.ask(x, 0, 0, 1);
        x.stop(true, 1);
        Looks.drain(x);
        DUE.row("client", Looks.client(x, 1), 0, 1, 7, 1, 1, 0, 1);
        DUE.row("operation", Looks.operation(x, 0), 1, 1, 0, 8, 0, 0, 1, 0, 0);
        DUE.same("moments", x.count(2), 1);
    }

    private static void aStoppedServerShowsWhatItHad() {
        Fleet x = new Fleet();
        x.write(0, 1, 8);
        Looks.drain(x);
        x.change(0, 3);
        Looks.ask(x, 2, 0, 0);
        x.stop(false, 0);
        DUE.same("map", x.map(false, 0, 0), 7);
        DUE.same("tag", x.cell(0, 1, 0), 4);
        DUE.same("value", x.cell(0, 1, 1), 8);
        DUE.row("vote", Looks.votes(x, 0, 0), 4, 0, 0);
        x.write(1, 1, 9);
        Looks.drain(x);
        DUE.same("it learns no more", x.cell(0, 1, 1), 8);
        DUE.same("others do", x.cell(1, 1, 1), 9);
    }

    private static void maps() {
        Fleet x = new Fleet();
        x.begin(4, 9);
        for (int k : new int[] {-1, 6, 7, LEAST, MOST}) {
            DUE.same("number " + k, x.map(false, 0, k), -2);
            DUE.same("number " + k, x.map(true, 0, k), -2);
        }
        for (int s : new int[] {-1, 4, 6, 7, LEAST, MOST}) {
            DUE.same("server " + s, x.map(false, s, 0), -2);
            DUE.same("client " + s, x.map(true, s, 0), -2);
        }
        DUE.row("server 3", Looks.map(x, false, 3), 9, 0, 0, 0, 0, 0);
        DUE.row("client 3", Looks.map(x, true, 3), 9, 0, 0, 0, 0, 0);
        x.change(3, 6);
        Looks.drain(x);
        DUE.row("client 3 changed", Looks.map(x, true, 3), 9, 6, 0, 0, 0, 0);
        DUE.row("client 2 did not", Looks.map(x, true, 2), 9, 0, 0, 0, 0, 0);
        x.move(3);
        Looks.drain(x);
        DUE.row("client 3 moved", Looks.map(x, true, 3), -1, 6, 0, 0, 0, 0);
        DUE.row("server 1 has news", Looks.map(x, false, 1), -1, 6, 0, 0, 0, 0);
        x.read(2, 0);
        Looks.drain(x);
        DUE.row("client 2 heard", Looks.map(x, true, 2), -1, 6, 0, 0, 0, 0);
    }

    private static void cells() {
        Fleet x = new Fleet();
        x.write(2, 2, -7);
        Looks.drain(x);
        DUE.same("tag", x.cell(2, 2, 0), 6);
        DUE.same("value", x.cell(2, 2, 1), -7);
        DUE.same("another register", x.cell(2, 1, 1), 0);
        for (int wrong : new int[] {-1, 3, 7, LEAST, MOST}) {
            DUE.same("server " + wrong, x.cell(wrong, 2, 0), 0);
            DUE.same("register " + wrong, x.cell(2, wrong, 0), 0);
            DUE.same("what " + wrong, x.cell(2, 2, wrong), 0);
        }
        DUE.same("what 2", x.cell(2, 2, 2), 0);
    }

    private static void votes() {
        Fleet x = new Fleet();
        x.change(3, 5);
        Looks.drain(x);
        x.change(3, 6);
        Looks.ask(x, 2, 0, 3);
        DUE.row("of 0", Looks.votes(x, 2, 0), 7, 7, 5);
        DUE.row("of 1", Looks.votes(x, 0, 1), 7, 0, 0);
        for (int wrong : new int[] {-1, 3, 5, LEAST, MOST}) {
            DUE.same("server " + wrong, x.vote(wrong, 0, 0), 0);
            DUE.same("number " + wrong, x.vote(0, wrong, 0), 0);
            DUE.same("what " + wrong, x.vote(0, 0, wrong), 0);
        }
    }

    private static void clients() {
        Fleet x = new Fleet();
        for (int wrong : new int[] {-1, 4, 7, LEAST, MOST}) {
            DUE.same("client " + wrong, x.client(wrong, 0), -2);
        }
        for (int wrong : new int[] {-1, 7, 8, LEAST, MOST}) {
            DUE.same("what " + wrong, x.client(0, wrong), -2);
        }
        DUE.row("new", Looks.client(x, 3), -1, 0, 0, 0, 0, 0, 0);
        x.read(3, 0);
        x.change(2, 1);
        DUE.row("reading", Looks.client(x, 3), 0, 1, 7, 0, 1, 0, 0);
        DUE.row("changing", Looks.client(x, 2), 1, 1, 7, 0, 1, 6, 0);
        Looks.ask(x, 0, 0, 3);
        Looks.ask(x, 0, 2, 3);
        DUE.row("round 2", Looks.client(x, 3), 0, 2, 7, 0, 2, 0, 0);
        Looks.ask(x, 1, 2, 3);
        DUE.row("an answer", Looks.client(x, 3), 0, 2, 7, 4, 2, 0, 0);
        Looks.drain(x);
        DUE.row("the reader is idle", Looks.client(x, 3), -1, 2, 0, 0, 0, 0, 0);
        DUE.row("the changer is idle", Looks.client(x, 2), -1, 2, 0, 0, 0, 0, 0);
        x.move(2);
        DUE.row("surveying", Looks.client(x, 2), 2, 3, 7, 0, 1, 0, 0);
        Looks.ask(x, 4, 1, 2);
        Looks.ask(x, 4, 2, 2);
        DUE.row("handing", Looks.client(x, 2), 2, 4, 1, 0, 2, 0, 0);
        x.stop(true, 2);
        DUE.row("stopped", Looks.client(x, 2), 2, 4, 1, 0, 2, 0, 1);
    }

    private static void roundsAreNumberedThroughAllOperations() {
        Fleet x = new Fleet();
        for (int n = 0; n < 5; n++) {
            x.write(1, 0, n);
            DUE.same("first round", x.client(1, 1), 2 * n + 1);
            DUE.same("the ask's round", x.message(0, 3), 2 * n + 1);
            Looks.drain(x);
            DUE.same("second round", x.client(1, 1), 2 * n + 2);
        }
        x.read(0, 0);
        DUE.same("each client has its own", x.client(0, 1), 1);
    }

    private static void operations() {
        Fleet x = new Fleet();
        for (int wrong : new int[] {-1, 0, 1, 60, LEAST, MOST}) {
            DUE.same("operation " + wrong, x.operation(wrong, 0), -2);
        }
        x.write(3, 2, -9);
        for (int wrong : new int[] {-1, 9, 10, LEAST, MOST}) {
            DUE.same("what " + wrong, x.operation(0, wrong), -2);
        }
        DUE.same("one behind the last", x.operation(1, 0), -2);
        DUE.row("writing", Looks.operation(x, 0), 1, 3, 2, -9, 0, 0, 1, 0, 0);
        Looks.drain(x);
        x.read(0, 2);
        x.change(1, 6);
        DUE.row("written", Looks.operation(x, 0), 1, 3, 2, -9, 1, -9, 1, 2, 0);
        DUE.row("reading", Looks.operation(x, 1), 0, 0, 2, 0, 0, 0, 3, 0, 0);
        DUE.row("changing", Looks.operation(x, 2), 2, 1, 6, 0, 0, 0, 4, 0, 0);
        Looks.drain(x);
        DUE.row("read", Looks.operation(x, 1), 0, 0, 2, 0, 1, -9, 3, 5, 0);
        DUE.row("changed", Looks.operation(x, 2), 2, 1, 6, 0, 1, 1, 4, 6, 0);
        x.move(1);
        Looks.drain(x);
        DUE.row("moved", Looks.operation(x, 3), 3, 1, 0, 0, 1, 0, 7, 8, 0);
        x.change(1, 5);
        Looks.drain(x);
        x.move(1);
        DUE.row("moving 1", Looks.operation(x, 5), 3, 1, 1, 0, 0, 0, 11, 0, 0);
        Looks.drain(x);
        DUE.row("moved 1", Looks.operation(x, 5), 3, 1, 1, 0, 1, 1, 11, 12, 0);
    }

    private static void momentsGoOnWithEachBeginAndEnd() {
        Fleet x = new Fleet();
        x.begin(3, 1);
        x.read(2, 0);
        x.read(0, 0);
        x.read(1, 0);
        int[] order = {1, 2, 0};
        for (int c : order) {
            Looks.ask(x, 0, 0, c);
            Looks.ask(x, 1, 0, c);
        }
        int[] begins = {1, 2, 3};
        int[] ends = {5, 6, 4};
        for (int n = 0; n < 3; n++) {
            DUE.same("begin of " + n, x.operation(n, 6), begins[n]);
            DUE.same("end of " + n, x.operation(n, 7), ends[n]);
        }
        DUE.same("moments", x.count(2), 6);
    }

    private static void counts() {
        Fleet x = new Fleet();
        for (int wrong : new int[] {-1, 5, 6, LEAST, MOST}) {
            DUE.same("what " + wrong, x.count(wrong), -1);
        }
        x.write(0, 0, 1);
        x.read(1, 0);
        x.lose(0);
        x.deliver(0);
        int[] early = {2, 0, 2, 7, 1};
        for (int what = 0; what < 5; what++) {
            DUE.same("early " + what, x.count(what), early[what]);
        }
        x.stop(true, 1);
        Looks.drain(x);
        // The writer: 3 asks (one lost), 2 answers, 3 tells, 3 answers; the reader: 3 asks, 3 answers that nobody got.
        int[] late = {2, 1, 3, 17, 13};
        for (int what = 0; what < 5; what++) {
            DUE.same("late " + what, x.count(what), late[what]);
        }
    }
}
