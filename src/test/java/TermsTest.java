/** The bounds that the terms name: servers, sets, maps, majorities, tags, ballots and time, on both sides of each. */
public final class TermsTest {
    private static final Due DUE = new Due("TermsTest");
    private static final int ASKS = 0;
    private static final int TELLS = 1;
    private static final int PREPARES = 2;
    private static final int OFFERS = 3;
    private static final int SURVEYS = 4;
    private static final int HANDS = 5;
    private static final int NEWS = 6;
    private static final int GONE = -1;

    private TermsTest() {
    }

    public static void main(String[] args) {
        aServerCountsTwoToItsNumber();
        everybodyHasAtFirstTheFirstSetAlone();
        aServersMapIsJoined();
        aClientsMapIsJoined();
        olderMapsTakeNothingBack();
        anIdleClientJoinsToo();
        whoHasStoppedJoinsNothing();
        tagsAndBallotsHaveTheirClient();
        aServerOfTwoSetsIsAskedOnce();
        moreThanHalfOfASet();
        moreThanHalfOfEachActiveSet();
        anEarlierSetThatIsGoneIsNotWaitedFor();
        aServerTakesAGreaterTagAlone();
        handedTagsAreTakenOneByOne();
        aServerKeepsAnEqualTag();
        aServerPromisesAGreaterBallotAlone();
        aServerAcceptsABallotThatIsNotLess();
        aNewSetIsAskedAheadOfAFullRound();
        aNewServerIsAskedInARoundThatIsFull();
        aMapEndsAChangeAheadOfAFullRound();
        aChangeIsOvertakenAtEachNumber();
        aChangeIsOvertakenByWhatIsGoneAgain();
        aMoveThatIsGoneEndsWithItsNumber();
        momentsCountFromOneOn();
        DUE.end();
    }

    /** "A SET of SERVERS is a number (SERVER s counts 2 to the s), not 0." */
    private static void aServerCountsTwoToItsNumber() {
        for (int s = 0; s < 7; s++) {
            Fleet x = new Fleet();
            x.begin(7, 1 << s);
            x.read(0, 0);
            DUE.same("one is asked", x.bag(), 1);
            DUE.same("it is", x.message(0, 1), s);
            DUE.same("asked as a number", x.client(0, 2), 1 << s);
            Looks.pass(x, ASKS, s, 0);
            Looks.pass(x, 10, s, 0);
            DUE.same("one answer is enough", x.client(0, 4), 2);
            Looks.ask(x, TELLS, s, 0);
            DUE.same("and ends it", x.operation(0, 4), 1);
        }
        Fleet x = new Fleet();
        x.begin(7, 127);
        x.read(0, 0);
        for (int s = 0; s < 7; s++) {
            DUE.same("in the order of their numbers", x.message(s, 1), s);
        }
    }

    /** "everybody has one, at first with the first SET for 0 alone"; "0, 0 at first"; "0, 0, none at first". */
    private static void everybodyHasAtFirstTheFirstSetAlone() {
        for (int servers = 3; servers <= 7; servers++) {
            Fleet x = new Fleet();
            x.begin(servers, 4);
            for (int who = 0; who < 4; who++) {
                DUE.row("client " + who, Looks.map(x, true, who), 4, 0, 0, 0, 0, 0);
            }
            for (int s = 0; s < servers; s++) {
                DUE.row("server " + s, Looks.map(x, false, s), 4, 0, 0, 0, 0, 0);
                for (int k = 0; k < 5; k++) {
                    DUE.row("its vote of " + k, Looks.votes(x, s, k), 0, 0, 0);
                }
                for (int r = 0; r < 3; r++) {
                    DUE.same("its tag of " + r, x.cell(s, r, 0), 0);
                    DUE.same("its value of " + r, x.cell(s, r, 1), 0);
                }
            }
        }
    }

    /**
     * Client 0 has left servers 0 and 1 behind and knows set 2, servers 1 to 3, alone. Client 1 has
     * asked server 0 when it knew nothing of that. News to all servers are in the bag.
     */
    private static Fleet twiceMoved() {
        Fleet x = new Fleet();
        x.begin(4, 1);
        x.read(1, 0);
        x.read(0, 0);
        Looks.bothRounds(x, ASKS, 0, 0);
        x.change(0, 2);
        Looks.bothRounds(x, PREPARES, 0, 0);
        x.move(0);
        Looks.ask(x, SURVEYS, 0, 0);
        Looks.ask(x, HANDS, 1, 0);
        x.change(0, 14);
        Looks.bothRounds(x, PREPARES, 0, 1);
        x.move(0);
        Looks.ask(x, SURVEYS, 1, 0);
        Looks.ask(x, HANDS, 1, 0);
        Looks.ask(x, HANDS, 2, 0);
        DUE.row("client 0", Looks.map(x, true, 0), GONE, GONE, 14, 0, 0, 0);
        DUE.row("client 1", Looks.map(x, true, 1), 1, 0, 0, 0, 0, 0);
        DUE.row("server 0", Looks.map(x, false, 0), 1, 2, 0, 0, 0, 0);
        DUE.row("server 2", Looks.map(x, false, 2), GONE, 2, 14, 0, 0, 0);
        DUE.row("server 3", Looks.map(x, false, 3), 1, 0, 0, 0, 0, 0);
        return x;
    }

    /** "One MAP JOINED to another: for each number GONE, if one of both has it, else a SET, if one has it." */
    private static void aServersMapIsJoined() {
        Fleet x = twiceMoved();
        Looks.pass(x, NEWS, 3, 0);
        DUE.row("set and gone, nothing and gone, nothing and a set", Looks.map(x, false, 3), GONE, GONE, 14, 0, 0, 0);
        Looks.pass(x, NEWS, 2, 0);
        DUE.row("both gone, set and gone, both the set", Looks.map(x, false, 2), GONE, GONE, 14, 0, 0, 0);
        x.deliver(Looks.find(x, i -> x.message(i, 0) == NEWS && x.message(i, 1) == 0 && x.message(i, 8) == GONE));
        DUE.row("set and gone, both the set", Looks.map(x, false, 0), GONE, 2, 0, 0, 0, 0);
        Looks.pass(x, ASKS, 0, 1);
        DUE.row("gone and set, set and nothing, both nothing", Looks.map(x, false, 0), GONE, 2, 0, 0, 0, 0);
        DUE.row("so it answers", Looks.messageMap(x, x.bag() - 1), GONE, 2, 0, 0, 0, 0);
        int late = Looks.find(x, i -> x.message(i, 0) == NEWS && x.message(i, 1) == 1 && x.message(i, 9) == 2);
        DUE.row("late news to server 1", Looks.messageMap(x, late), 1, 2, 0, 0, 0, 0);
        int last = Looks.find(x, i -> x.message(i, 0) == NEWS && x.message(i, 1) == 1 && x.message(i, 9) == GONE);
        x.deliver(last);
        DUE.row("the last news to it", Looks.map(x, false, 1), GONE, GONE, 14, 0, 0, 0);
        x.deliver(late);
        DUE.row("the late ones take nothing back", Looks.map(x, false, 1), GONE, GONE, 14, 0, 0, 0);
    }

    /** "A CLIENT that gets one JOINS it first." */
    private static void aClientsMapIsJoined() {
        Fleet x = twiceMoved();
        Looks.ask(x, ASKS, 0, 1);
        DUE.row("both the set, nothing and a set", Looks.map(x, true, 1), 1, 2, 0, 0, 0, 0);
        Looks.ask(x, ASKS, 1, 1);
        DUE.row("set and gone, both the set, nothing and a set", Looks.map(x, true, 1), GONE, 2, 14, 0, 0, 0);
        Looks.pass(x, NEWS, 3, 0);
        Looks.ask(x, ASKS, 3, 1);
        DUE.row("set and gone", Looks.map(x, true, 1), GONE, GONE, 14, 0, 0, 0);
    }

    private static void olderMapsTakeNothingBack() {
        Fleet x = new Fleet();
        x.read(1, 0);
        Looks.pass(x, ASKS, 0, 1);
        x.change(0, 6);
        Looks.bothRounds(x, PREPARES, 0, 1, 2);
        x.move(0);
        Looks.ask(x, SURVEYS, 1, 0);
        Looks.ask(x, SURVEYS, 2, 0);
        Looks.pass(x, ASKS, 2, 1);
        Looks.ask(x, HANDS, 1, 0);
        Looks.ask(x, HANDS, 2, 0);
        Looks.pass(x, NEWS, 1, 0);
        Looks.ask(x, ASKS, 1, 1);
        DUE.row("client 1", Looks.map(x, true, 1), GONE, 6, 0, 0, 0, 0);
        int middle = Looks.find(x, i -> x.message(i, 0) == 10 && x.message(i, 1) == 2);
        DUE.row("an answer of old", Looks.messageMap(x, middle), 7, 6, 0, 0, 0, 0);
        x.deliver(middle);
        DUE.row("gone and set, both the set", Looks.map(x, true, 1), GONE, 6, 0, 0, 0, 0);
        int oldest = Looks.find(x, i -> x.message(i, 0) == 10 && x.message(i, 1) == 0);
        DUE.row("the oldest answer", Looks.messageMap(x, oldest), 7, 0, 0, 0, 0, 0);
        x.deliver(oldest);
        DUE.row("gone and set, set and nothing", Looks.map(x, true, 1), GONE, 6, 0, 0, 0, 0);
    }

    /** A late answer to a client that does nothing, and one that takes nothing back. */
    private static void anIdleClientJoinsToo() {
        Fleet x = new Fleet();
        x.read(1, 0);
        for (int s = 0; s < 2; s++) {
            Looks.ask(x, ASKS, s, 1);
        }
        Looks.pass(x, TELLS, 2, 1);
        for (int s = 0; s < 2; s++) {
            Looks.ask(x, TELLS, s, 1);
        }
        DUE.same("it has ended", x.client(1, 0), -1);
        x.change(0, 6);
        Looks.ask(x, PREPARES, 0, 0);
        Looks.ask(x, PREPARES, 1, 0);
        Looks.ask(x, OFFERS, 0, 0);
        Looks.ask(x, OFFERS, 1, 0);
        Looks.pass(x, NEWS, 2, 0);
        int before = x.bag();
        Looks.ask(x, ASKS, 2, 1);
        DUE.row("it knows", Looks.map(x, true, 1), 7, 6, 0, 0, 0, 0);
        DUE.row("and does nothing", Looks.client(x, 1), -1, 2, 0, 0, 0, 0, 0);
        DUE.same("nor asks", x.bag(), before - 1);
        Looks.pass(x, 11, 2, 1);
        DUE.row("an older answer takes nothing back", Looks.map(x, true, 1), 7, 6, 0, 0, 0, 0);
    }

    /** "Who has STOPPED gets nothing: the MESSAGE is gone." */
    private static void whoHasStoppedJoinsNothing() {
        Fleet x = twiceMoved();
        x.stop(false, 3);
        DUE.same("news to a stopped server", Looks.pass(x, NEWS, 3, 0), 0);
        DUE.row("its map", Looks.map(x, false, 3), 1, 0, 0, 0, 0, 0);
        Looks.pass(x, ASKS, 0, 1);
        x.stop(true, 1);
        int before = x.bag();
        DUE.same("an answer to a stopped client", Looks.pass(x, 10, 0, 1), 0);
        DUE.row("its map", Looks.map(x, true, 1), 1, 0, 0, 0, 0, 0);
        DUE.row("its round", Looks.client(x, 1), 0, 1, 1, 0, 1, 0, 1);
        DUE.same("the message is gone", x.bag(), before - 1);
        x.stop(true, 0);
        DUE.same("what it sent is delivered all the same", Looks.pass(x, NEWS, 2, 0), 1);
        DUE.same("server 2 has it", x.map(false, 2, 1), GONE);
    }

    /** "TAGS and BALLOTS are 4 times a number and a CLIENT together." */
    private static void tagsAndBallotsHaveTheirClient() {
        for (int c = 0; c < 4; c++) {
            for (int d = 0; d < 4; d++) {
                Fleet x = new Fleet();
                x.write(c, 0, 1);
                x.run(1, 1000);
                DUE.same("the first tag of " + c, x.cell(0, 0, 0), 4 + c);
                x.write(d, 0, 2);
                x.run(1, 1000);
                DUE.same("the next tag of " + d, x.cell(0, 0, 0), 8 + d);
                if (c != d) {
                    x.begin(3, 7);
                    x.change(c, 1);
                    x.change(d, 2);
                    DUE.same("the first ballot of " + c, x.client(c, 5), 4 + c);
                    Looks.pass(x, PREPARES, 0, Math.max(c, d));
                    Looks.ask(x, PREPARES, 0, Math.min(c, d));
                    DUE.same("the next ballot", x.client(Math.min(c, d), 5), 8 + Math.min(c, d));
                }
            }
        }
    }

    /** "In a ROUND it asks SERVERS, each once, in the order of their numbers". */
    private static void aServerOfTwoSetsIsAskedOnce() {
        Fleet x = new Fleet();
        x.begin(6, 56);
        x.change(0, 27);
        x.run(1, 1000);
        x.read(0, 0);
        int[] order = {0, 1, 3, 4, 5};
        DUE.same("asked", x.bag(), order.length);
        for (int i = 0; i < order.length; i++) {
            DUE.same("in order", x.message(i, 1), order[i]);
        }
        DUE.same("as a number", x.client(0, 2), 59);
    }

    /** Asks the servers of a set, from the last on, till the client's round is over: how many that took. */
    private static int answersToEnd(Fleet x, int kind, int set) {
        int round = x.client(0, 1);
        int operation = x.client(0, 0);
        int answers = 0;
        for (int s = 6; s >= 0 && x.client(0, 1) == round && x.client(0, 0) == operation; s--) {
            if ((set >> s & 1) != 0) {
                Looks.ask(x, kind, s, 0);
                answers++;
            }
        }
        return answers;
    }

    /** "FULL: more than half of it", of each of the six kinds of questions. */
    private static void moreThanHalfOfASet() {
        for (int set : new int[] {1, 64, 3, 96, 7, 84, 15, 108, 31, 115, 63, 126, 127}) {
            int need = Integer.bitCount(set) / 2 + 1;
            Fleet x = new Fleet();
            x.begin(7, set);
            x.write(0, 0, 3);
            DUE.same("asks of " + set, answersToEnd(x, ASKS, set), need);
            DUE.same("tells of " + set, answersToEnd(x, TELLS, set), need);
            DUE.same("the write has ended", x.operation(0, 4), 1);
            x.change(0, 5);
            DUE.same("prepares of " + set, answersToEnd(x, PREPARES, set), need);
            DUE.same("offers of " + set, answersToEnd(x, OFFERS, set), need);
            DUE.same("the change has ended", x.operation(1, 4), 1);
            x.move(0);
            DUE.same("surveys of " + set, answersToEnd(x, SURVEYS, set), need);
            DUE.same("hands to two", answersToEnd(x, HANDS, 5), 2);
            DUE.same("the move has ended", x.operation(2, 4), 1);
            x.change(0, set);
            Looks.drain(x);
            x.move(0);
            DUE.same("surveys of two", answersToEnd(x, SURVEYS, 5), 2);
            DUE.same("hands to " + set, answersToEnd(x, HANDS, set), need);
            DUE.same("the last move has ended", x.operation(4, 4), 1);
        }
    }

    /** "FULL: of each of these SETS more than half have answered", whichever servers those are. */
    private static void moreThanHalfOfEachActiveSet() {
        int[][] pairs = {{15, 28}, {7, 24}, {1, 30}, {31, 4}};
        for (int[] sets : pairs) {
            for (int answering = 0; answering < 32; answering++) {
                Fleet x = new Fleet();
                x.begin(5, sets[0]);
                x.change(0, sets[1]);
                x.run(answering, 1000);
                x.read(0, 0);
                boolean full = true;
                for (int set : sets) {
                    full &= 2 * Integer.bitCount(answering & set) > Integer.bitCount(set);
                }
                askAll(x, ASKS, answering);
                DUE.same("first round of " + sets[0] + " and " + sets[1] + " with " + answering, x.client(0, 4), full ? 2 : 1);
                if (!full) {
                    continue;
                }
                for (int telling = 0; telling < 32; telling++) {
                    Fleet y = x.twin();
                    boolean ended = 2 * Integer.bitCount(telling & sets[0]) > Integer.bitCount(sets[0])
                        && 2 * Integer.bitCount(telling & sets[1]) > Integer.bitCount(sets[1]);
                    askAll(y, TELLS, telling);
                    DUE.same("second round with " + telling, y.operation(1, 4), ended ? 1 : 0);
                }
            }
        }
    }

    private static void askAll(Fleet x, int kind, int servers) {
        for (int s = 0; s < 7; s++) {
            if ((servers >> s & 1) != 0) {
                Looks.ask(x, kind, s, 0);
            }
        }
    }

    /** "ACTIVE are the numbers that have a SET in a MAP." */
    private static void anEarlierSetThatIsGoneIsNotWaitedFor() {
        Fleet x = new Fleet();
        x.begin(7, 7);
        x.change(0, 8);
        x.run(1, 1000);
        x.change(0, 112);
        x.run(2, 1000);
        x.read(0, 0);
        DUE.same("three sets", x.client(0, 2), 127);
        x.run(3, 1000);
        x.move(0);
        x.run(4, 1000);
        x.read(0, 0);
        DUE.same("one is gone, two are left", x.client(0, 2), 120);
        x.run(5, 1000);
        x.move(0);
        x.run(6, 1000);
        x.read(0, 0);
        DUE.same("one is left", x.client(0, 2), 112);
        Looks.ask(x, ASKS, 4, 0);
        Looks.ask(x, ASKS, 6, 0);
        DUE.same("two of its three are enough", x.client(0, 4), 2);
    }

    /** "ROUND 2 TELLS BEST: the SERVER has it for r, if its own TAG is less." */
    private static void aServerTakesAGreaterTagAlone() {
        for (int first = 0; first < 4; first++) {
            for (int second = 0; second < 4; second++) {
                if (first == second) {
                    continue;
                }
                Fleet x = new Fleet();
                x.write(first, 0, 10 + first);
                x.write(second, 0, 10 + second);
                for (int c : new int[] {first, second}) {
                    Looks.ask(x, ASKS, 0, c);
                    Looks.ask(x, ASKS, 1, c);
                }
                Looks.pass(x, TELLS, 2, first);
                DUE.same("the first tag", x.cell(2, 0, 0), 4 + first);
                Looks.pass(x, TELLS, 2, second);
                DUE.same("the greater tag", x.cell(2, 0, 0), 4 + Math.max(first, second));
                DUE.same("its value", x.cell(2, 0, 1), 10 + Math.max(first, second));
                DUE.same("an answer all the same", x.message(x.bag() - 1, 0), 11);
            }
        }
    }

    /** "ROUND 2 HANDS the greatest TAG of each REGISTER ..: a SERVER has each whose own is less." */
    private static void handedTagsAreTakenOneByOne() {
        Fleet x = new Fleet();
        x.begin(4, 7);
        x.write(1, 0, 11);
        x.run(1, 1000);
        x.write(2, 1, 12);
        x.run(2, 1000);
        x.change(0, 8);
        x.run(3, 1000);
        x.move(0);
        Looks.ask(x, SURVEYS, 0, 0);
        Looks.ask(x, SURVEYS, 1, 0);
        x.write(3, 1, 13);
        for (int kind = ASKS; kind <= TELLS; kind++) {
            for (int s = 0; s < 4; s++) {
                Looks.ask(x, kind, s, 3);
            }
        }
        x.write(3, 2, 14);
        for (int kind = ASKS; kind <= TELLS; kind++) {
            for (int s = 0; s < 4; s++) {
                Looks.ask(x, kind, s, 3);
            }
        }
        int[] own = {0, 11, 7};
        for (int r = 0; r < 3; r++) {
            DUE.same("server 3's tag of " + r, x.cell(3, r, 0), own[r]);
        }
        Looks.pass(x, HANDS, 3, 0);
        int[] tags = {5, 11, 7};
        int[] values = {11, 13, 14};
        for (int r = 0; r < 3; r++) {
            DUE.same("then its tag of " + r, x.cell(3, r, 0), tags[r]);
            DUE.same("its value of " + r, x.cell(3, r, 1), values[r]);
        }
    }

    /**
     * Client 1 writes 20 by the tag 5 that its 10 had: servers 0 and 4, which it hears, are more than
     * half of the new set, but server 0 answered ahead of the move. Both values are then told by 5.
     */
    private static Fleet oneTagTwice() {
        Fleet x = new Fleet();
        x.begin(5, 7);
        x.read(1, 0);
        Looks.bothRounds(x, ASKS, 1, 0, 2);
        x.write(1, 0, 10);
        Looks.bothRounds(x, ASKS, 1, 1, 2);
        x.write(1, 0, 20);
        Looks.ask(x, ASKS, 0, 1);
        x.change(2, 25);
        Looks.bothRounds(x, PREPARES, 2, 1, 2);
        x.move(2);
        Looks.ask(x, SURVEYS, 1, 2);
        Looks.ask(x, SURVEYS, 2, 2);
        Looks.ask(x, HANDS, 0, 2);
        Looks.ask(x, HANDS, 3, 2);
        Looks.pass(x, NEWS, 1, 2);
        x.deliver(Looks.find(x, i -> x.message(i, 0) == ASKS && x.message(i, 1) == 1 && x.message(i, 3) == 1
            && x.message(i, 2) == 1));
        x.deliver(x.bag() - 1);
        Looks.ask(x, ASKS, 4, 1);
        DUE.row("it tells by 5 again", Looks.client(x, 1), 2, 6, 25, 0, 2, 5, 0);
        return x;
    }

    /** "if its own TAG is less"; "whose own is less": an equal one is not. */
    private static void aServerKeepsAnEqualTag() {
        Fleet x = oneTagTwice();
        Looks.ask(x, TELLS, 3, 1);
        DUE.same("server 3's tag", x.cell(3, 0, 0), 5);
        DUE.same("it keeps its value", x.cell(3, 0, 1), 10);
        Looks.ask(x, TELLS, 4, 1);
        DUE.same("server 4's tag", x.cell(4, 0, 0), 5);
        DUE.same("it had none", x.cell(4, 0, 1), 20);
        DUE.row("the write has ended", Looks.operation(x, 2), 1, 1, 0, 20, 1, 20, 5, 10, 0);
        x.change(2, 16);
        Looks.bothRounds(x, PREPARES, 2, 0, 3);
        x.move(2);
        Looks.ask(x, SURVEYS, 0, 2);
        Looks.ask(x, SURVEYS, 3, 2);
        DUE.row("5 and 10 are handed", Looks.message(x, x.bag() - 1), HANDS, 4, 2, 8, 1, 5, 10, 0);
        Looks.ask(x, HANDS, 4, 2);
        DUE.same("server 4 keeps its value", x.cell(4, 0, 1), 20);
        DUE.same("the move has ended", x.operation(6, 4), 1);
    }

    /** "A SERVER whose PROMISED of k is less has it as PROMISED, and answers well ..; else it answers badly". */
    private static void aServerPromisesAGreaterBallotAlone() {
        for (int first = 0; first < 4; first++) {
            for (int second = 0; second < 4; second++) {
                if (first == second) {
                    continue;
                }
                Fleet x = new Fleet();
                x.change(first, 1);
                x.change(second, 2);
                Looks.pass(x, PREPARES, 0, first);
                DUE.row("more than 0", Looks.message(x, x.bag() - 1), 12, 0, first, 1, 0, 0, 0, 0);
                DUE.row("promised", Looks.votes(x, 0, 0), 4 + first, 0, 0);
                Looks.pass(x, PREPARES, 0, second);
                boolean well = first < second;
                DUE.row("well or badly", Looks.message(x, x.bag() - 1),
                    12, 0, second, 1, 0, well ? 0 : 4 + first, 0, well ? 0 : 1);
                DUE.row("promised then", Looks.votes(x, 0, 0), 4 + Math.max(first, second), 0, 0);
            }
        }
        Fleet x = States.beaten(9);
        Looks.loseAll(x);
        x.change(0, 1);
        Looks.pass(x, PREPARES, 0, 0);
        DUE.row("4 when 4 is promised", Looks.message(x, x.bag() - 1), 12, 0, 0, 10, 0, 4, 0, 1);
        DUE.row("as it was", Looks.votes(x, 0, 0), 4, 0, 0);
    }

    /** "a SERVER whose PROMISED of k is not greater has both ..: it answers well; else badly." */
    private static void aServerAcceptsABallotThatIsNotLess() {
        for (int offering = 0; offering < 4; offering++) {
            for (int promised = -1; promised < 4; promised++) {
                Fleet x = new Fleet();
                x.change(offering, 3);
                Looks.ask(x, PREPARES, 1, offering);
                if (promised == offering) {
                    Looks.pass(x, PREPARES, 0, offering);
                } else if (promised >= 0) {
                    x.change(promised, 5);
                    Looks.pass(x, PREPARES, 0, promised);
                }
                Looks.ask(x, PREPARES, 2, offering);
                int had = promised < 0 ? 0 : 4 + promised;
                DUE.row("promised", Looks.votes(x, 0, 0), had, 0, 0);
                Looks.pass(x, OFFERS, 0, offering);
                int ballot = 4 + offering;
                boolean well = had <= ballot;
                DUE.row("the answer to " + ballot, Looks.message(x, x.bag() - 1),
                    13, 0, offering, 2, 0, well ? 0 : had, 0, well ? 0 : 1);
                if (well) {
                    DUE.row("accepted", Looks.votes(x, 0, 0), ballot, ballot, 3);
                } else {
                    DUE.row("as it was", Looks.votes(x, 0, 0), had, 0, 0);
                }
            }
        }
    }

    /** "those that are to be asked now and were not in this ROUND are asked; if the ROUND is FULL, it ends". */
    private static void aNewSetIsAskedAheadOfAFullRound() {
        for (int round = 1; round <= 2; round++) {
            Fleet x = new Fleet();
            x.begin(5, 7);
            x.write(0, 0, 3);
            if (round == 2) {
                Looks.ask(x, ASKS, 0, 0);
                Looks.ask(x, ASKS, 1, 0);
            }
            x.change(1, 24);
            Looks.bothRounds(x, PREPARES, 1, 1, 2);
            Looks.pass(x, NEWS, 2, 1);
            Looks.ask(x, round - 1, 1, 0);
            DUE.same("one answer of set 0", x.client(0, 2), 7);
            Looks.ask(x, round - 1, 2, 0);
            DUE.row("two, but none of set 1", Looks.client(x, 0), 0, round, 31, 6, round, round == 1 ? 0 : 4, 0);
            Looks.ask(x, round - 1, 3, 0);
            DUE.same("one of set 1", x.client(0, 3), 14);
            Looks.ask(x, round - 1, 4, 0);
            DUE.same("both", x.client(0, 4), round == 1 ? 2 : 0);
        }
    }

    /** In this order: server 3 is asked in the round that ends with the same answer. */
    private static void aNewServerIsAskedInARoundThatIsFull() {
        for (int round = 1; round <= 2; round++) {
            Fleet x = new Fleet();
            x.begin(4, 7);
            x.write(0, 0, 3);
            if (round == 2) {
                Looks.ask(x, ASKS, 0, 0);
                Looks.ask(x, ASKS, 1, 0);
            }
            x.change(1, 14);
            Looks.bothRounds(x, PREPARES, 1, 1, 2);
            Looks.pass(x, NEWS, 2, 1);
            Looks.ask(x, round - 1, 1, 0);
            Looks.pass(x, round - 1, 2, 0);
            int first = x.bag() - 1;
            Looks.pass(x, round + 9, 2, 0);
            int tag = round == 1 ? 0 : 4;
            DUE.row("server 3 is asked", Looks.message(x, first), round - 1, 3, 0, round, 0, tag, round == 1 ? 0 : 3, 0);
            if (round == 1) {
                DUE.row("the next round", Looks.client(x, 0), 0, 2, 15, 0, 2, 4, 0);
                DUE.same("asks all four", x.bag(), first + 5);
            } else {
                DUE.same("it has ended", x.operation(0, 4), 1);
                DUE.same("nothing more is sent", x.bag(), first + 1);
            }
        }
    }

    /** "or k + 1 has something: END: it has ended, with 1 if k + 1 has this SET, else 0". */
    private static void aMapEndsAChangeAheadOfAFullRound() {
        for (int round = 1; round <= 2; round++) {
            for (int set : new int[] {3, 5}) {
                Fleet x = new Fleet();
                x.begin(5, 31);
                x.change(0, set);
                for (int s = 0; s < (round == 1 ? 2 : 3); s++) {
                    Looks.ask(x, PREPARES, s, 0);
                }
                if (round == 2) {
                    Looks.ask(x, OFFERS, 0, 0);
                    Looks.ask(x, OFFERS, 1, 0);
                }
                int rival = round == 1 ? 3 : 5;
                x.change(1, rival);
                for (int kind = PREPARES; kind <= OFFERS; kind++) {
                    for (int s = 1; s < 4; s++) {
                        Looks.ask(x, kind, s, 1);
                    }
                }
                int agreed = x.map(true, 1, 1);
                DUE.same("agreed on", agreed, round == 1 ? 3 : set);
                Looks.pass(x, NEWS, 4, 1);
                int kind = round == 1 ? PREPARES : OFFERS;
                Looks.pass(x, kind, 4, 0);
                int before = x.bag();
                DUE.same("an answer that would fill the round", x.message(before - 1, 7), 0);
                Looks.pass(x, kind + 10, 4, 0);
                DUE.same("it has ended", x.operation(0, 4), 1);
                DUE.same("with", x.operation(0, 5), agreed == set ? 1 : 0);
                DUE.same("nothing is sent", x.bag(), before - 1);
                DUE.same("no bad answer", x.operation(0, 8), 0);
            }
        }
    }

    /** Each set is server 0 alone; two clients know this many beyond the first, the earlier ones gone or not. */
    private static Fleet twoThatKnow(int sets, int moved) {
        Fleet x = new Fleet();
        x.begin(3, 1);
        for (int n = 0; n < sets; n++) {
            x.change(0, 1);
            x.run(n, 1000);
        }
        for (int n = 0; n < moved; n++) {
            x.move(0);
            x.run(n, 1000);
        }
        x.read(1, 0);
        x.run(1, 1000);
        DUE.row("the second knows what the first does", Looks.map(x, true, 1), Looks.map(x, true, 0));
        return x;
    }

    /** "If k is GONE there at any time, or k + 1 has something: END", k from 0 to 4. */
    private static void aChangeIsOvertakenAtEachNumber() {
        for (int k = 0; k < 5; k++) {
            for (int set = 1; set <= 2; set++) {
                Fleet x = twoThatKnow(k, 0);
                x.change(0, 2);
                int second = x.change(1, set);
                Looks.ask(x, PREPARES, 0, 0);
                Looks.ask(x, OFFERS, 0, 0);
                Looks.pass(x, NEWS, 0, 0);
                DUE.same("the next number", x.map(false, 0, k + 1), 2);
                int before = x.bag();
                Looks.ask(x, PREPARES, 0, 1);
                DUE.same("it has ended", x.operation(second, 4), 1);
                DUE.same("with 1 if that is its own", x.operation(second, 5), set == 2 ? 1 : 0);
                DUE.same("nothing is sent", x.bag(), before - 1);
                DUE.same("its map", x.map(true, 1, k + 1), 2);
            }
        }
    }

    /** "else 0 (also if k + 1 is GONE)": number 5 is never gone, so k is 3 at the most. */
    private static void aChangeIsOvertakenByWhatIsGoneAgain() {
        for (int k = 0; k < 4; k++) {
            Fleet x = twoThatKnow(k, k);
            int second = x.change(1, 1);
            for (int n = 0; n < 2; n++) {
                x.change(0, 1);
                Looks.bothRounds(x, PREPARES, 0, 0);
                Looks.pass(x, NEWS, 0, 0);
            }
            for (int n = 0; n < 2; n++) {
                x.move(0);
                Looks.bothRounds(x, SURVEYS, 0, 0);
                Looks.pass(x, NEWS, 0, 0);
            }
            DUE.same("k is gone", x.map(false, 0, k), GONE);
            DUE.same("k + 1 is gone", x.map(false, 0, k + 1), GONE);
            DUE.same("it has not ended", x.operation(second, 4), 0);
            Looks.ask(x, PREPARES, 0, 1);
            DUE.same("it has ended", x.operation(second, 4), 1);
            DUE.same("with 0", x.operation(second, 5), 0);
            DUE.same("none counted", x.operation(second, 8), 0);
        }
    }

    /** "If k is GONE, it has ended, with k." */
    private static void aMoveThatIsGoneEndsWithItsNumber() {
        for (int k = 0; k < 5; k++) {
            Fleet x = twoThatKnow(5, k);
            int first = x.move(0);
            int second = x.move(1);
            Looks.ask(x, SURVEYS, 0, 0);
            Looks.ask(x, HANDS, 0, 0);
            DUE.same("the first ended", x.operation(first, 4), 1);
            DUE.same("with", x.operation(first, 5), k);
            Looks.pass(x, NEWS, 0, 0);
            int before = x.bag();
            Looks.ask(x, SURVEYS, 0, 1);
            DUE.same("the second ended", x.operation(second, 4), 1);
            DUE.same("with", x.operation(second, 5), k);
            DUE.same("without a word", x.bag(), before - 1);
            DUE.same("and knows", x.map(true, 1, k), GONE);
        }
    }

    /** "TIME: each begin and each end has the next MOMENT, from 1 on." */
    private static void momentsCountFromOneOn() {
        Fleet x = new Fleet();
        DUE.same("none yet", x.count(2), 0);
        x.begin(3, 1);
        for (int n = 0; n < 4; n++) {
            x.read(n, 0);
            DUE.same("begin of " + n, x.operation(n, 6), n + 1);
            DUE.same("no end as yet", x.operation(n, 7), 0);
            DUE.same("moments", x.count(2), n + 1);
        }
        for (int n = 0; n < 4; n++) {
            int c = 3 - n;
            Looks.ask(x, ASKS, 0, c);
            DUE.same("a round is no moment", x.count(2), 4 + n);
            Looks.ask(x, TELLS, 0, c);
            DUE.same("end of " + c, x.operation(c, 7), 5 + n);
            DUE.same("moments", x.count(2), 5 + n);
        }
        x.read(9, 0);
        x.move(0);
        DUE.same("what is refused has none", x.count(2), 8);
        x.begin(3, 1);
        DUE.same("begun anew", x.count(2), 0);
        x.read(0, 0);
        DUE.same("from 1 on", x.operation(0, 6), 1);
    }
}
