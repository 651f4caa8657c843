import java.util.function.IntUnaryOperator;

/**
 * The calls that only look, promises 7, 8 and 13 to 19: at each bound the last input that shows
 * something and the first that does not, and that a look changes nothing.
 */
public final class LookBoundsTest {
    private static final Due DUE = new Due("LookBoundsTest");
    private static final int LEAST = Integer.MIN_VALUE;
    private static final int MOST = Integer.MAX_VALUE;
    private static final int NONE = -1;
    private static final int NO_SUCH = -2;

    private LookBoundsTest() {
    }

    public static void main(String[] args) {
        anEmptyBagHasNone();
        messagesAre0ToBag();
        whatOfAMessageIs0To13();
        aMapInAMessageHasNumbers0To5();
        newsHaveAMapAlone();
        mapsAreOfServersAndClientsThatAreThere();
        aMapHasNumbers0To5();
        cellsAreOfServersAndRegistersThatAreThere();
        votesAreOfNumbers0To4();
        clientsAre0To3();
        whatOfAClientIs0To6();
        aClientShowsNothingOfWhatEnded();
        operationsAreThoseThatBegan();
        whatOfAnOperationIs0To8();
        whatOfACountIs0To4();
        atomicTakesRegisters0To2();
        atomicTakesFourteen();
        atomicCountsReadsAndWritesOfItsRegisterAlone();
        looksChangeNothing();
        DUE.end();
    }

    /** Those outside answer so; the inputs from first to last have to answer otherwise. */
    private static void bounds(String call, int first, int last, int outside, IntUnaryOperator look) {
        for (int input : new int[] {LEAST, LEAST + 8, -9, -2, first - 1, last + 1, last + 2, 100, MOST}) {
            DUE.same(call + " with " + input, look.applyAsInt(input), outside);
        }
        for (int input = first; input <= last; input++) {
            DUE.yes(call + " with " + input + " shows something", look.applyAsInt(input) != outside);
        }
    }

    /** "How many MESSAGES are in the BAG." */
    private static void anEmptyBagHasNone() {
        Fleet x = new Fleet();
        DUE.same("a new bag", x.bag(), 0);
        bounds("message(i, 0) of an empty bag", 0, -1, NO_SUCH, i -> x.message(i, 0));
        x.begin(3, 1);
        x.read(0, 0);
        DUE.same("one came", x.bag(), 1);
        bounds("message(i, 0) of one", 0, 0, NO_SUCH, i -> x.message(i, 0));
        x.lose(0);
        DUE.same("it is lost", x.bag(), 0);
        bounds("message(i, 0) when all is lost", 0, -1, NO_SUCH, i -> x.message(i, 0));
    }

    /** "NONE - 1 if there is none such, or another what." */
    private static void messagesAre0ToBag() {
        Fleet x = States.underWay();
        int last = x.bag() - 1;
        DUE.yes("some are there", last > 10);
        for (int what = 0; what <= 13; what++) {
            int shown = what;
            bounds("message(i, " + what + ")", 0, last, NO_SUCH, i -> x.message(i, shown));
        }
    }

    private static void whatOfAMessageIs0To13() {
        Fleet x = States.underWay();
        for (int each = 0; each < x.bag(); each++) {
            int i = each;
            bounds("message(" + i + ", what)", 0, 13, NO_SUCH, what -> x.message(i, what));
        }
    }

    /** "8 + n: what its MAP has for n (0 nothing, -1 GONE)." */
    private static void aMapInAMessageHasNumbers0To5() {
        Fleet x = States.allMoved();
        x.read(1, 0);
        DUE.row("client 1 knows number 0 alone", Looks.messageMap(x, 0), 7, 0, 0, 0, 0, 0);
        x.read(0, 0);
        int last = x.bag() - 1;
        DUE.row("client 0 knows all", Looks.messageMap(x, last), -1, -1, -1, -1, -1, 6);
        DUE.same("7 is no part of it", x.message(last, 7), 0);
        DUE.same("14 is no part of it", x.message(last, 14), NO_SUCH);
    }

    /** "3 its ROUND (0 of NEWS"; "NEWS have a MAP alone."; "What it does not have is 0." */
    private static void newsHaveAMapAlone() {
        Fleet x = States.ready();
        x.write(3, 0, 9);
        x.run(1, 1000);
        x.move(3);
        Looks.ask(x, 4, 0, 3);
        Looks.ask(x, 4, 1, 3);
        Looks.ask(x, 5, 2, 3);
        Looks.ask(x, 5, 3, 3);
        Looks.loseOthers(x, 6);
        DUE.same("to all of both sets", x.bag(), 4);
        for (int s = 0; s < 4; s++) {
            DUE.row("news to " + s, Looks.message(x, s), 6, s, 3, 0, 0, 0, 0, 0);
            DUE.row("their map", Looks.messageMap(x, s), -1, 14, 11, 0, 0, 0);
        }
    }

    /** "SERVERS 0 .. S - 1 (S 3 .. 7), CLIENTS 0 .. 3"; "NONE - 1 if there is none such." */
    private static void mapsAreOfServersAndClientsThatAreThere() {
        for (int servers = 3; servers <= 7; servers++) {
            Fleet x = new Fleet();
            x.begin(7, 127);
            x.begin(servers, 5);
            for (int k = 0; k <= 5; k++) {
                int number = k;
                bounds("map(false, s, " + k + ")", 0, servers - 1, NO_SUCH, s -> x.map(false, s, number));
                bounds("map(true, s, " + k + ")", 0, 3, NO_SUCH, s -> x.map(true, s, number));
            }
        }
    }

    /** "A MAP has for each number 0 .. 5 nothing, a SET, or GONE". */
    private static void aMapHasNumbers0To5() {
        Fleet x = States.allMoved();
        for (int who = 0; who < 3; who++) {
            int s = who;
            bounds("map(false, " + s + ", k)", 0, 5, NO_SUCH, k -> x.map(false, s, k));
            bounds("map(true, " + s + ", k)", 0, 5, NO_SUCH, k -> x.map(true, s, k));
        }
        DUE.row("a set is left for number 5", Looks.map(x, true, 0), -1, -1, -1, -1, -1, 6);
        DUE.row("others have the first set alone", Looks.map(x, true, 3), 7, 0, 0, 0, 0, 0);
    }

    /** "Of SERVER s and REGISTER r: what 0 the TAG, 1 the value. 0 if there is none such." */
    private static void cellsAreOfServersAndRegistersThatAreThere() {
        for (int servers = 3; servers <= 7; servers++) {
            Fleet x = new Fleet();
            x.begin(servers, (1 << servers) - 1);
            for (int r = 0; r < 3; r++) {
                x.write(r, r, 40 + r);
                x.run(r, 1000);
            }
            for (int what = 0; what < 2; what++) {
                int shown = what;
                bounds("cell(s, 2, " + what + ")", 0, servers - 1, 0, s -> x.cell(s, 2, shown));
                bounds("cell(0, r, " + what + ")", 0, 2, 0, r -> x.cell(0, r, shown));
            }
            bounds("cell(" + (servers - 1) + ", 1, what)", 0, 1, 0, what -> x.cell(serversLast(x), 1, what));
            x.begin(3, 7);
            for (int s = 0; s < 8; s++) {
                DUE.same("begun anew, cell(" + s + ", 1, 1)", x.cell(s, 1, 1), 0);
            }
        }
    }

    private static int serversLast(Fleet x) {
        int s = 0;
        while (s < 6 && x.map(false, s + 1, 0) != NO_SUCH) {
            s++;
        }
        return s;
    }

    /** "for each number k of 0 .. 4 PROMISED, and ACCEPTED with a SET"; "0 if there is none such." */
    private static void votesAreOfNumbers0To4() {
        for (int servers = 3; servers <= 7; servers++) {
            Fleet x = new Fleet();
            int all = (1 << servers) - 1;
            x.begin(servers, all);
            for (int k = 0; k < 5; k++) {
                x.change(k % 4, all);
                x.run(k, 1000);
                x.read((k + 1) % 4, 0);
                x.run(k, 1000);
            }
            for (int what = 0; what < 3; what++) {
                int shown = what;
                bounds("vote(s, 4, " + what + ")", 0, servers - 1, 0, s -> x.vote(s, 4, shown));
                bounds("vote(0, k, " + what + ")", 0, 4, 0, k -> x.vote(0, k, shown));
            }
            bounds("vote(2, 4, what)", 0, 2, 0, what -> x.vote(2, 4, what));
            DUE.row("the first number's vote", Looks.votes(x, 0, 0), 4, 4, all);
            DUE.row("the fourth number's vote", Looks.votes(x, 0, 3), 7, 7, all);
            DUE.row("the last number's vote", Looks.votes(x, 0, 4), 4, 4, all);
        }
    }

    /** "NONE - 1 if there is none such, or another what." */
    private static void clientsAre0To3() {
        Fleet x = States.underWay();
        for (int what = 0; what <= 6; what++) {
            int shown = what;
            bounds("client(c, " + what + ")", 0, 3, NO_SUCH, c -> x.client(c, shown));
        }
    }

    private static void whatOfAClientIs0To6() {
        for (Fleet x : new Fleet[] {new Fleet(), States.ready(), States.underWay()}) {
            for (int each = 0; each < 4; each++) {
                int c = each;
                bounds("client(" + c + ", what)", 0, 6, NO_SUCH, what -> x.client(c, what));
            }
        }
    }

    /** "0 its OPERATION (NONE), 1 its ROUND's number (0 ahead of any)"; "2, 3: 0 without an OPERATION"; "else 0". */
    private static void aClientShowsNothingOfWhatEnded() {
        Fleet x = new Fleet();
        DUE.row("ahead of any", Looks.client(x, 1), NONE, 0, 0, 0, 0, 0, 0);
        for (int kind = 0; kind < 4; kind++) {
            x = States.ready();
            x.write(0, 0, 3);
            x.run(1, 1000);
            int before = x.client(1, 1);
            States.begin(x, kind, 1);
            DUE.same("it asked somebody", x.client(1, 2) == 0 ? 0 : 1, 1);
            States.toRoundTwo(x, 1);
            while (x.client(1, 3) == 0 && x.bag() > 0) {
                x.deliver(0);
            }
            DUE.same("somebody's answer counts", x.client(1, 3) == 0 ? 0 : 1, 1);
            DUE.same("a mark is shown, but of a move", x.client(1, 5) == 0 ? 0 : 1, kind == 3 ? 0 : 1);
            x.run(1, 1000);
            DUE.row("ended", Looks.client(x, 1), NONE, before + 2, 0, 0, 0, 0, 0);
        }
    }

    /** "NONE - 1 if there is none such, or another what." */
    private static void operationsAreThoseThatBegan() {
        Fleet x = new Fleet();
        for (int what = 0; what <= 8; what++) {
            int shown = what;
            bounds("operation(n, " + what + ") when none began", 0, -1, NO_SUCH, n -> x.operation(n, shown));
        }
        Fleet y = States.fiftyNineBegan();
        y.write(0, 0, 1);
        for (int what = 0; what <= 8; what++) {
            int shown = what;
            bounds("operation(n, " + what + ") when sixty began", 0, 59, NO_SUCH, n -> y.operation(n, shown));
        }
        y.begin(3, 7);
        y.read(0, 0);
        bounds("operation(n, 0) begun anew", 0, 0, NO_SUCH, n -> y.operation(n, 0));
    }

    private static void whatOfAnOperationIs0To8() {
        Fleet x = States.underWay();
        for (int each = 0; each < x.count(0); each++) {
            int n = each;
            bounds("operation(" + n + ", what)", 0, 8, NO_SUCH, what -> x.operation(n, what));
        }
    }

    /** "NONE for another what." */
    private static void whatOfACountIs0To4() {
        for (Fleet x : new Fleet[] {new Fleet(), States.underWay()}) {
            bounds("count(what)", 0, 4, NONE, x::count);
        }
    }

    /** "NONE if there is none such". */
    private static void atomicTakesRegisters0To2() {
        for (Fleet x : new Fleet[] {new Fleet(), States.underWay()}) {
            bounds("atomic(r)", 0, 2, NONE, x::atomic);
        }
    }

    /** "NONE if there is none such, or more than 14 READS and WRITES of it began." */
    private static void atomicTakesFourteen() {
        for (int r = 0; r < 3; r++) {
            for (int last = 0; last < 4; last++) {
                Fleet x = new Fleet();
                for (int n = 0; n < 13; n++) {
                    readOrWrite(x, n % 3, r);
                    x.run(n, 1000);
                    DUE.same("after " + (n + 1), x.atomic(r), 1);
                }
                readOrWrite(x, last, r);
                if (last > 1) {
                    x.run(13, 1000);
                }
                DUE.same("the fourteenth began", x.atomic(r), 1);
                Fleet y = x.twin();
                x.read(3, r);
                DUE.same("a read is the fifteenth", x.atomic(r), NONE);
                x.run(14, 1000);
                DUE.same("and ended", x.atomic(r), NONE);
                y.write(3, r, 1);
                DUE.same("a write is the fifteenth", y.atomic(r), NONE);
                y.run(14, 1000);
                DUE.same("and ended", y.atomic(r), NONE);
            }
        }
    }

    private static void readOrWrite(Fleet x, int draw, int r) {
        if (draw % 2 == 0) {
            x.read(draw % 3, r);
        } else {
            x.write(draw % 3, r, draw);
        }
    }

    private static void atomicCountsReadsAndWritesOfItsRegisterAlone() {
        Fleet x = new Fleet();
        for (int n = 0; n < 42; n++) {
            readOrWrite(x, n % 4, n % 3);
            x.run(n, 1000);
        }
        for (int k = 0; k < 4; k++) {
            x.change(0, 7);
            x.run(k, 1000);
            x.move(0);
            x.run(k, 1000);
        }
        DUE.same("began", x.count(0), 50);
        for (int r = 0; r < 3; r++) {
            DUE.same("fourteen of each, changes and moves", x.atomic(r), 1);
        }
        x.read(0, 1);
        int[] want = {1, NONE, 1};
        for (int r = 0; r < 3; r++) {
            DUE.same("a fifteenth of register 1", x.atomic(r), want[r]);
        }
    }

    /** The same deeds on two objects, one of them looked at all the while, within its 512 calls. */
    private static void looksChangeNothing() {
        RegisterFleet watched = new RegisterFleet();
        RegisterFleet alone = new RegisterFleet();
        for (int turn = 0; turn < 12; turn++) {
            for (RegisterFleet each : new RegisterFleet[] {watched, alone}) {
                each.write(turn % 4, turn % 3, turn);
                each.change((turn + 1) % 4, turn % 7 + 1);
                each.move((turn + 2) % 4);
                each.run(turn, 9);
            }
            glance(watched, turn);
        }
        for (int what = 0; what < 5; what++) {
            DUE.same("count " + what, watched.count(what), alone.count(what));
        }
        DUE.same("bag", watched.bag(), alone.bag());
        for (int i = 0; i < alone.bag(); i++) {
            DUE.same("kind of " + i, watched.message(i, 0), alone.message(i, 0));
        }
        DUE.same("the rest", watched.run(5, 1000), alone.run(5, 1000));
        for (int s = 0; s < 3; s++) {
            DUE.same("tag on " + s, watched.cell(s, 0, 0), alone.cell(s, 0, 0));
            DUE.same("value on " + s, watched.cell(s, 0, 1), alone.cell(s, 0, 1));
        }
    }

    private static void glance(RegisterFleet x, int turn) {
        for (int what = -1; what <= 14; what += 5) {
            x.message(turn % 3, what);
            x.client(turn % 5, what);
            x.operation(turn, what);
            x.count(what);
        }
        x.bag();
        for (int s = -1; s < 4; s++) {
            x.map(turn % 2 == 0, s, turn % 7);
            x.cell(s, turn % 4, turn % 3);
            x.vote(s, turn % 6, turn % 4);
            x.atomic(s);
        }
    }
}
