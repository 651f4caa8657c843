/** Promise 3 (read) and promise 4 (write). */
public final class ReadWriteTest {
    private static final Due DUE = new Due("ReadWriteTest");
    private static final int ASKS = 0;
    private static final int TELLS = 1;
    private static final int NEWS = 6;

    private ReadWriteTest() {
    }

    public static void main(String[] args) {
        wrongOnesDoNothing();
        aClientDoesOneAtATime();
        sixtyBeginAtMost();
        aWriteGoesInTwoRounds();
        aReadTellsWhatItRead();
        aWriteGoesBeyondTheGreatestTag();
        aReadTakesTheGreatestTagWhoeverAnswersFirst();
        aServerKeepsAGreaterTag();
        anyValueCanBeWritten();
        halfIsNotEnough();
        aNewSetIsAskedToo();
        anOldSetIsLeftBehind();
        aFormerRoundTellsItsMapAlone();
        aFormerRoundMayFillTheRound();
        twoWritersTellTheirTagsApart();
        DUE.end();
    }

    private static void wrongOnesDoNothing() {
        Fleet x = new Fleet();
        int[] wrongClients = {-1, 4, Integer.MIN_VALUE, Integer.MAX_VALUE};
        int[] wrongRegisters = {-1, 3, Integer.MIN_VALUE, Integer.MAX_VALUE};
        for (int c : wrongClients) {
            DUE.same("read by " + c, x.read(c, 0), -1);
            DUE.same("write by " + c, x.write(c, 0, 1), -1);
        }
        for (int r : wrongRegisters) {
            DUE.same("read of " + r, x.read(0, r), -1);
            DUE.same("write of " + r, x.write(0, r, 1), -1);
        }
        DUE.same("began", x.count(0), 0);
        DUE.same("moments", x.count(2), 0);
        DUE.same("bag", x.bag(), 0);
    }

    private static void aClientDoesOneAtATime() {
        Fleet x = new Fleet();
        for (int c = 0; c < 4; c++) {
            DUE.same("first of " + c, c % 2 == 0 ? x.read(c, c % 3) : x.write(c, c % 3, 1), c);
        }
        for (int c = 0; c < 4; c++) {
            DUE.same("second read of " + c, x.read(c, 0), -1);
            DUE.same("second write of " + c, x.write(c, 0, 1), -1);
        }
        DUE.same("bag", x.bag(), 12);
        Looks.drain(x);
        DUE.same("all ended", x.count(1), 4);
        DUE.yes("stop", x.stop(true, 3));
        DUE.same("stopped read", x.read(3, 0), -1);
        DUE.same("stopped write", x.write(3, 0, 1), -1);
        DUE.same("another one", x.read(2, 0), 4);
    }

    private static void sixtyBeginAtMost() {
        Fleet x = new Fleet();
        for (int n = 0; n < 60; n++) {
            DUE.same("operation", n % 2 == 0 ? x.read(n % 4, 0) : x.write(n % 4, 0, n), n);
            x.run(n, 1000);
        }
        DUE.same("read 61", x.read(0, 0), -1);
        DUE.same("write 61", x.write(0, 0, 1), -1);
        DUE.same("change 61", x.change(0, 1), -1);
        DUE.same("move 61", x.move(0), -1);
        DUE.same("began", x.count(0), 60);
        DUE.same("bag", x.bag(), 0);
        x.begin(3, 7);
        DUE.same("anew", x.read(0, 0), 0);
    }

    private static void aWriteGoesInTwoRounds() {
        Fleet x = new Fleet();
        x.write(2, 1, 77);
        DUE.row("begun", Looks.client(x, 2), 0, 1, 7, 0, 1, 0, 0);
        for (int s = 0; s < 3; s++) {
            DUE.row("asks " + s, Looks.message(x, s), ASKS, s, 2, 1, 1, 0, 0, 0);
        }
        Looks.ask(x, ASKS, 1, 2);
        DUE.row("one answer", Looks.client(x, 2), 0, 1, 7, 2, 1, 0, 0);
        Looks.ask(x, ASKS, 2, 2);
        DUE.row("round 2", Looks.client(x, 2), 0, 2, 7, 0, 2, 6, 0);
        DUE.same("an ask and three tells", x.bag(), 4);
        for (int s = 0; s < 3; s++) {
            DUE.row("tells " + s, Looks.message(x, 1 + s), TELLS, s, 2, 2, 1, 6, 77, 0);
        }
        Looks.pass(x, TELLS, 0, 2);
        DUE.row("a tell's answer", Looks.message(x, x.bag() - 1), 11, 0, 2, 2, 1, 0, 0, 0);
        DUE.same("server 0 has the tag", x.cell(0, 1, 0), 6);
        DUE.same("server 0 has the value", x.cell(0, 1, 1), 77);
        Looks.pass(x, 11, 0, 2);
        DUE.row("not yet", Looks.operation(x, 0), 1, 2, 1, 77, 0, 0, 1, 0, 0);
        Looks.ask(x, TELLS, 1, 2);
        DUE.row("ended", Looks.operation(x, 0), 1, 2, 1, 77, 1, 77, 1, 2, 0);
        DUE.row("idle", Looks.client(x, 2), -1, 2, 0, 0, 0, 0, 0);
        DUE.same("other registers", x.cell(0, 0, 0) + x.cell(0, 2, 0), 0);
    }

    private static void aReadTellsWhatItRead() {
        Fleet x = new Fleet();
        x.write(0, 0, 5);
        Looks.ask(x, ASKS, 0, 0);
        Looks.ask(x, ASKS, 1, 0);
        Looks.pass(x, TELLS, 0, 0);
        x.stop(true, 0);
        Looks.loseAll(x);
        x.read(1, 0);
        Looks.ask(x, ASKS, 0, 1);
        DUE.row("server 0 answered, but nothing is best yet", Looks.client(x, 1), 1, 1, 7, 1, 1, 0, 0);
        Looks.ask(x, ASKS, 2, 1);
        DUE.row("the best tag is told", Looks.client(x, 1), 1, 2, 7, 0, 2, 4, 0);
        Looks.ask(x, TELLS, 1, 1);
        Looks.ask(x, TELLS, 2, 1);
        DUE.same("the read ends with it", x.operation(1, 5), 5);
        DUE.same("server 1 has it", x.cell(1, 0, 1), 5);
        DUE.same("server 2 has its tag", x.cell(2, 0, 0), 4);
        DUE.same("the write has not ended", x.operation(0, 4), 0);
    }

    private static void aWriteGoesBeyondTheGreatestTag() {
        Fleet x = new Fleet();
        int[] writers = {3, 0, 0, 1, 2};
        int[] tags = {7, 8, 12, 17, 22};
        for (int i = 0; i < writers.length; i++) {
            x.write(writers[i], 2, 100 + i);
            Looks.drain(x);
            DUE.same("tag " + i, x.cell(1, 2, 0), tags[i]);
            DUE.same("value " + i, x.cell(1, 2, 1), 100 + i);
        }
    }

    /** Server 0 has tag 4, server 1 tag 5, server 2 none. */
    private static Fleet uneven() {
        Fleet x = new Fleet();
        x.write(0, 0, 40);
        x.write(1, 0, 50);
        for (int c = 0; c < 2; c++) {
            Looks.ask(x, ASKS, 0, c);
            Looks.ask(x, ASKS, 1, c);
        }
        Looks.pass(x, TELLS, 0, 0);
        Looks.pass(x, TELLS, 1, 1);
        return x;
    }

    private static void aReadTakesTheGreatestTagWhoeverAnswersFirst() {
        int[][] orders = {{0, 1}, {1, 0}};
        for (int[] order : orders) {
            Fleet x = uneven();
            x.read(2, 0);
            Looks.pass(x, ASKS, order[0], 2);
            DUE.row("the answer has tag and value", Looks.message(x, x.bag() - 1),
                10, order[0], 2, 1, 0, 4 + order[0], 40 + 10 * order[0], 0);
            Looks.pass(x, 10, order[0], 2);
            Looks.ask(x, ASKS, order[1], 2);
            DUE.same("best", x.client(2, 5), 5);
            Looks.ask(x, TELLS, 0, 2);
            Looks.ask(x, TELLS, 2, 2);
            DUE.same("read", x.operation(2, 5), 50);
        }
    }

    private static void aServerKeepsAGreaterTag() {
        Fleet x = uneven();
        Looks.ask(x, TELLS, 1, 0);
        DUE.same("the greater tag stays", x.cell(1, 0, 0), 5);
        DUE.same("with its value", x.cell(1, 0, 1), 50);
        DUE.same("the lesser one's answer counts all the same", x.client(0, 3), 2);
        Looks.ask(x, TELLS, 0, 1);
        DUE.same("the lesser tag goes", x.cell(0, 0, 0), 5);
        DUE.same("and its value", x.cell(0, 0, 1), 50);
    }

    private static void anyValueCanBeWritten() {
        int[] values = {0, -1, -2, Integer.MIN_VALUE, Integer.MAX_VALUE};
        Fleet x = new Fleet();
        for (int v : values) {
            int w = x.write(0, 1, v);
            Looks.drain(x);
            int r = x.read(1, 1);
            Looks.drain(x);
            DUE.same("written", x.operation(w, 3), v);
            DUE.same("write ended with", x.operation(w, 5), v);
            DUE.same("read ended with", x.operation(r, 5), v);
            DUE.same("a read has no v", x.operation(r, 3), 0);
        }
        DUE.same("atomic", x.atomic(1), 1);
    }

    private static void halfIsNotEnough() {
        int[] sizes = {1, 2, 3, 4, 5, 6, 7};
        for (int size : sizes) {
            Fleet x = new Fleet();
            x.begin(7, (1 << size) - 1);
            x.read(0, 0);
            DUE.same("asked", x.bag(), size);
            int answers = 0;
            while (x.client(0, 4) == 1 && answers < size) {
                Looks.ask(x, ASKS, answers, 0);
                answers++;
            }
            DUE.same("answers of " + size + " that are more than half", answers, size / 2 + 1);
        }
    }

    /** Servers 0 to 2 are set 0; client 3 has changed to servers 2 to 4, and only server 1 has news. */
    private static Fleet changed() {
        Fleet x = new Fleet();
        x.begin(5, 7);
        x.change(3, 28);
        Looks.ask(x, 2, 1, 3);
        Looks.ask(x, 2, 2, 3);
        Looks.ask(x, 3, 1, 3);
        Looks.ask(x, 3, 2, 3);
        Looks.pass(x, NEWS, 1, 3);
        Looks.loseAll(x);
        return x;
    }

    private static void aNewSetIsAskedToo() {
        Fleet x = changed();
        x.write(0, 0, 9);
        DUE.same("it asks the set it knows", x.client(0, 2), 7);
        Looks.ask(x, ASKS, 0, 0);
        DUE.same("server 0 knows no more", x.client(0, 2), 7);
        Looks.ask(x, ASKS, 1, 0);
        DUE.row("server 1 told of the new set", Looks.map(x, true, 0), 7, 28, 0, 0, 0, 0);
        DUE.row("the rest of it is asked, but it is not full", Looks.client(x, 0), 1, 1, 31, 3, 1, 0, 0);
        DUE.row("in their order", Looks.message(x, x.bag() - 2), ASKS, 3, 0, 1, 0, 0, 0, 0);
        DUE.row("in their order", Looks.message(x, x.bag() - 1), ASKS, 4, 0, 1, 0, 0, 0, 0);
        DUE.row("with the map of now", Looks.messageMap(x, x.bag() - 1), 7, 28, 0, 0, 0, 0);
        Looks.ask(x, ASKS, 3, 0);
        DUE.same("one of three is not enough", x.client(0, 4), 1);
        Looks.ask(x, ASKS, 2, 0);
        DUE.row("server 2 is of both", Looks.client(x, 0), 1, 2, 31, 0, 2, 4, 0);
        Looks.ask(x, TELLS, 0, 0);
        Looks.ask(x, TELLS, 1, 0);
        DUE.same("half of the sets", x.operation(1, 4), 0);
        Looks.ask(x, TELLS, 3, 0);
        Looks.ask(x, TELLS, 4, 0);
        DUE.same("both sets", x.operation(1, 4), 1);
    }

    private static void anOldSetIsLeftBehind() {
        Fleet x = changed();
        x.read(0, 0);
        Looks.ask(x, ASKS, 2, 0);
        x.move(3);
        Looks.ask(x, 4, 0, 3);
        Looks.ask(x, 4, 1, 3);
        Looks.ask(x, 5, 3, 3);
        Looks.ask(x, 5, 4, 3);
        Looks.pass(x, NEWS, 3, 3);
        DUE.row("server 3 knows that set 0 is gone", Looks.map(x, false, 3), -1, 28, 0, 0, 0, 0);
        x.read(1, 0);
        Looks.ask(x, ASKS, 1, 1);
        DUE.same("client 1 asks both", x.client(1, 2), 31);
        Looks.ask(x, ASKS, 3, 1);
        DUE.row("client 1 leaves set 0", Looks.map(x, true, 1), -1, 28, 0, 0, 0, 0);
        DUE.row("but not what it asked", Looks.client(x, 1), 3, 1, 31, 10, 1, 0, 0);
        Looks.ask(x, ASKS, 4, 1);
        DUE.row("set 1 alone is asked in round 2", Looks.client(x, 1), 3, 2, 28, 0, 2, 0, 0);
        Looks.ask(x, TELLS, 2, 1);
        Looks.ask(x, TELLS, 3, 1);
        DUE.same("set 1 is enough", x.operation(3, 4), 1);
    }

    /**
     * Client 1 reads for the second time and has server 2's answer; client 3 has moved all from
     * servers 0 to 2 to the set, and server 0, which knows, gets client 1's ask of its first round.
     */
    private static Fleet lateAnswer(int set, int handed) {
        Fleet x = new Fleet();
        x.begin(5, 7);
        x.read(1, 0);
        Looks.ask(x, ASKS, 1, 1);
        Looks.ask(x, ASKS, 2, 1);
        Looks.ask(x, TELLS, 1, 1);
        Looks.ask(x, TELLS, 2, 1);
        DUE.same("an ask and a tell to server 0 are left", x.bag(), 2);
        x.change(3, set);
        Looks.ask(x, 2, 0, 3);
        Looks.ask(x, 2, 1, 3);
        Looks.ask(x, 3, 0, 3);
        Looks.ask(x, 3, 1, 3);
        x.move(3);
        Looks.ask(x, 4, 0, 3);
        Looks.ask(x, 4, 1, 3);
        x.read(1, 0);
        Looks.ask(x, ASKS, 2, 1);
        DUE.row("one answer", Looks.client(x, 1), 3, 3, 7, 4, 1, 0, 0);
        for (int s = 0; s < 5; s++) {
            if ((handed >> s & 1) != 0) {
                Looks.ask(x, 5, s, 3);
            }
        }
        Looks.pass(x, NEWS, 0, 3);
        int old = Looks.find(x, i -> x.message(i, 0) == ASKS && x.message(i, 2) == 1 && x.message(i, 3) == 1);
        x.deliver(old);
        DUE.row("an answer of round 1", Looks.message(x, x.bag() - 1), 10, 0, 1, 1, 0, 0, 0, 0);
        return x;
    }

    private static void aFormerRoundTellsItsMapAlone() {
        Fleet x = lateAnswer(14, 10);
        x.deliver(x.bag() - 1);
        DUE.row("its map is joined", Looks.map(x, true, 1), -1, 14, 0, 0, 0, 0);
        DUE.row("it asks the new server, the answer does not count", Looks.client(x, 1), 3, 3, 15, 4, 1, 0, 0);
        Looks.ask(x, ASKS, 3, 1);
        DUE.row("two of set 1", Looks.client(x, 1), 3, 4, 14, 0, 2, 0, 0);
    }

    private static void aFormerRoundMayFillTheRound() {
        Fleet x = lateAnswer(4, 4);
        x.deliver(x.bag() - 1);
        DUE.row("server 2 is all of set 1", Looks.client(x, 1), 3, 4, 4, 0, 2, 0, 0);
    }

    private static void twoWritersTellTheirTagsApart() {
        Fleet x = new Fleet();
        x.write(0, 0, 1);
        x.write(1, 0, 2);
        x.write(2, 0, 3);
        DUE.same("all is delivered", x.run(99, 1000), 36);
        DUE.same("the greatest client's tag is left", x.cell(0, 0, 0), x.cell(1, 0, 0));
        DUE.same("ended", x.count(1), 3);
        DUE.same("atomic", x.atomic(0), 1);
    }
}
