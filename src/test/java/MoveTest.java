/** Promise 6 (move). */
public final class MoveTest {
    private static final Due DUE = new Due("MoveTest");
    private static final int SURVEYS = 4;
    private static final int HANDS = 5;
    private static final int NEWS = 6;

    private MoveTest() {
    }

    public static void main(String[] args) {
        wrongOnesDoNothing();
        aMoveGoesInTwoRounds();
        theGreatestTagOfEachRegisterIsHanded();
        handedTagsDoNotPushAsideGreaterOnes();
        aGoneNumberEndsIt();
        aGoneNumberComesAheadOfAFullRound();
        theLeastActiveNumberIsMoved();
        messagesOfAMoveHaveItsNumber();
        DUE.end();
    }

    private static void wrongOnesDoNothing() {
        Fleet x = new Fleet();
        for (int c : new int[] {-1, 4, Integer.MIN_VALUE, Integer.MAX_VALUE, 0, 3}) {
            DUE.same("move by " + c, x.move(c), -1);
        }
        DUE.same("began", x.count(0), 0);
        x.change(0, 3);
        DUE.same("busy", x.move(0), -1);
        Looks.drain(x);
        DUE.same("one that does not know set 1", x.move(1), -1);
        x.read(0, 0);
        DUE.same("busy", x.move(0), -1);
        Looks.drain(x);
        x.stop(true, 0);
        DUE.same("stopped", x.move(0), -1);
        DUE.same("began", x.count(0), 2);
        DUE.same("bag", x.bag(), 0);
    }

    /** Client 0 knows servers 0 to 2 as set 0 and servers 2 to 4 as set 1; the servers know set 0. */
    private static Fleet changed() {
        Fleet x = new Fleet();
        x.begin(5, 7);
        x.change(0, 28);
        Looks.bothRounds(x, 2, 0, 0, 1);
        Looks.loseAll(x);
        return x;
    }

    private static void aMoveGoesInTwoRounds() {
        Fleet x = changed();
        DUE.same("move", x.move(0), 1);
        DUE.row("operation", Looks.operation(x, 1), 3, 0, 0, 0, 0, 0, 3, 0, 0);
        DUE.row("begun", Looks.client(x, 0), 1, 3, 7, 0, 1, 0, 0);
        for (int s = 0; s < 3; s++) {
            DUE.row("surveys " + s, Looks.message(x, s), SURVEYS, s, 0, 3, 0, 0, 0, 0);
        }
        DUE.row("their map", Looks.messageMap(x, 0), 7, 28, 0, 0, 0, 0);
        Looks.ask(x, SURVEYS, 2, 0);
        DUE.row("one answer", Looks.client(x, 0), 1, 3, 7, 4, 1, 0, 0);
        Looks.ask(x, SURVEYS, 0, 0);
        DUE.row("round 2", Looks.client(x, 0), 1, 4, 28, 0, 2, 0, 0);
        for (int s = 2; s < 5; s++) {
            DUE.row("hands " + s, Looks.message(x, s - 1), HANDS, s, 0, 4, 0, 0, 0, 0);
        }
        Looks.pass(x, HANDS, 4, 0);
        DUE.row("the answer", Looks.message(x, x.bag() - 1), 15, 4, 0, 4, 0, 0, 0, 0);
        Looks.pass(x, 15, 4, 0);
        DUE.row("one of three", Looks.operation(x, 1), 3, 0, 0, 0, 0, 0, 3, 0, 0);
        Looks.ask(x, HANDS, 3, 0);
        DUE.row("ended with k", Looks.operation(x, 1), 3, 0, 0, 0, 1, 0, 3, 4, 0);
        DUE.row("set 0 is gone", Looks.map(x, true, 0), -1, 28, 0, 0, 0, 0);
        DUE.same("a survey, a hand and five news are left", x.bag(), 7);
        for (int s = 0; s < 5; s++) {
            DUE.row("news " + s, Looks.message(x, 2 + s), NEWS, s, 0, 0, 0, 0, 0, 0);
            DUE.row("their map", Looks.messageMap(x, 2 + s), -1, 28, 0, 0, 0, 0);
        }
        x.deliver(2);
        DUE.row("server 0 has news", Looks.map(x, false, 0), -1, 28, 0, 0, 0, 0);
        DUE.row("server 1 has none", Looks.map(x, false, 1), 7, 0, 0, 0, 0, 0);
        DUE.same("there is nothing behind set 1", x.move(0), -1);
    }

    /** Lets client c write v to r on servers a and b alone. */
    private static void writeOn(Fleet x, int c, int r, int v, int a, int b) {
        x.write(c, r, v);
        Looks.ask(x, 0, a, c);
        Looks.ask(x, 0, b, c);
        Looks.ask(x, 1, a, c);
        Looks.ask(x, 1, b, c);
        Looks.loseAll(x);
    }

    private static void theGreatestTagOfEachRegisterIsHanded() {
        int[][] orders = {{0, 2}, {2, 0}};
        for (int[] order : orders) {
            Fleet x = changed();
            writeOn(x, 1, 0, 10, 0, 1);
            writeOn(x, 2, 1, 20, 1, 2);
            writeOn(x, 3, 2, 30, 0, 1);
            writeOn(x, 1, 2, 31, 1, 2);
            int[][] tags = {{5, 0, 7}, {5, 6, 9}, {0, 6, 9}};
            for (int s = 0; s < 3; s++) {
                for (int r = 0; r < 3; r++) {
                    DUE.same("tag of " + r + " on " + s, x.cell(s, r, 0), tags[s][r]);
                }
            }
            x.move(0);
            Looks.pass(x, SURVEYS, order[0], 0);
            int tag = order[0] == 0 ? 5 : 0;
            DUE.row("register 0 in the answer", Looks.message(x, x.bag() - 1), 14, order[0], 0, 3, 0, tag, 2 * tag, 0);
            Looks.pass(x, 14, order[0], 0);
            Looks.ask(x, SURVEYS, order[1], 0);
            DUE.row("register 0 in hands", Looks.message(x, x.bag() - 1), HANDS, 4, 0, 4, 0, 5, 10, 0);
            DUE.same("a move shows no tag", x.client(0, 5), 0);
            Looks.drain(x);
            int[] handed = {5, 6, 9};
            int[] values = {10, 20, 31};
            for (int s = 2; s < 5; s++) {
                for (int r = 0; r < 3; r++) {
                    DUE.same("tag of " + r + " on " + s, x.cell(s, r, 0), handed[r]);
                    DUE.same("value of " + r + " on " + s, x.cell(s, r, 1), values[r]);
                }
            }
            DUE.same("server 0 is handed nothing", x.cell(0, 1, 0), 0);
        }
    }

    private static void handedTagsDoNotPushAsideGreaterOnes() {
        Fleet x = changed();
        x.move(0);
        Looks.ask(x, SURVEYS, 0, 0);
        Looks.ask(x, SURVEYS, 1, 0);
        x.write(1, 0, 6);
        for (int kind = 0; kind <= 1; kind++) {
            for (int s = 0; s < 5; s++) {
                Looks.ask(x, kind, s, 1);
            }
        }
        DUE.same("the write is on server 3", x.cell(3, 0, 0), 5);
        Looks.drain(x);
        DUE.same("its tag stays", x.cell(3, 0, 0), 5);
        DUE.same("its value stays", x.cell(3, 0, 1), 6);
        DUE.same("both ended", x.count(1), 3);
        DUE.same("atomic", x.atomic(0), 1);
    }

    /** Clients 0 and 1 both know both sets and both begin to move. */
    private static Fleet twoMovers() {
        Fleet x = changed();
        x.read(0, 0);
        Looks.drain(x);
        x.read(1, 0);
        Looks.drain(x);
        DUE.same("the first mover", x.move(0), 3);
        DUE.same("the second mover", x.move(1), 4);
        return x;
    }

    private static void aGoneNumberEndsIt() {
        Fleet x = twoMovers();
        Looks.ask(x, SURVEYS, 0, 0);
        Looks.ask(x, SURVEYS, 1, 0);
        Looks.ask(x, HANDS, 2, 0);
        Looks.ask(x, HANDS, 3, 0);
        Looks.pass(x, NEWS, 0, 0);
        Looks.ask(x, SURVEYS, 1, 1);
        DUE.same("server 1 has no news", x.operation(4, 4), 0);
        int before = x.bag();
        Looks.ask(x, SURVEYS, 0, 1);
        DUE.same("ended", x.operation(4, 4), 1);
        DUE.same("with k", x.operation(4, 5), 0);
        DUE.same("it asks nobody and tells nobody", x.bag(), before - 1);
        DUE.row("its map", Looks.map(x, true, 1), -1, 28, 0, 0, 0, 0);
    }

    private static void aGoneNumberComesAheadOfAFullRound() {
        Fleet x = twoMovers();
        for (int c = 0; c < 2; c++) {
            Looks.ask(x, SURVEYS, 0, c);
            Looks.ask(x, SURVEYS, 1, c);
            Looks.ask(x, HANDS, 2, c);
        }
        Looks.ask(x, HANDS, 3, 0);
        Looks.pass(x, NEWS, 4, 0);
        int before = x.bag();
        Looks.ask(x, HANDS, 4, 1);
        DUE.same("ended", x.operation(4, 4), 1);
        DUE.same("there are no second news", x.bag(), before - 1);
    }

    private static void theLeastActiveNumberIsMoved() {
        Fleet x = new Fleet();
        int[] sets = {6, 5, 3, 7, 1};
        for (int set : sets) {
            x.change(2, set);
            Looks.drain(x);
        }
        x.write(1, 2, 44);
        Looks.drain(x);
        int[] want = {7, 6, 5, 3, 7, 1};
        for (int k = 0; k < 5; k++) {
            DUE.row("map ahead of " + k, Looks.map(x, true, 2), want);
            int n = x.move(2);
            DUE.same("k", x.operation(n, 2), k);
            DUE.same("set k is asked", x.client(2, 2), want[k]);
            Looks.drain(x);
            DUE.same("ended with k", x.operation(n, 5), k);
            want[k] = -1;
        }
        DUE.row("the last map", Looks.map(x, true, 2), want);
        DUE.same("the last set stays", x.move(2), -1);
        x.read(3, 2);
        Looks.drain(x);
        DUE.same("the value outlived its servers", x.operation(x.count(0) - 1, 5), 44);
        DUE.same("server 0 alone is active", x.cell(0, 2, 1), 44);
    }

    private static void messagesOfAMoveHaveItsNumber() {
        Fleet x = new Fleet();
        int[] sets = {7, 6, 5, 3, 7, 3};
        for (int i = 1; i < sets.length; i++) {
            x.change(2, sets[i]);
            Looks.drain(x);
        }
        for (int k = 0; k < 5; k++) {
            x.move(2);
            int round = x.client(2, 1);
            int first = Integer.numberOfTrailingZeros(sets[k]);
            DUE.row("surveys of " + k, Looks.message(x, 0), SURVEYS, first, 2, round, k, 0, 0, 0);
            Looks.pass(x, SURVEYS, first, 2);
            DUE.row("an answer of " + k, Looks.message(x, x.bag() - 1), 14, first, 2, round, k, 0, 0, 0);
            while (x.client(2, 4) == 1 && x.bag() > 0) {
                x.deliver(0);
            }
            int last = 31 - Integer.numberOfLeadingZeros(sets[k + 1]);
            DUE.row("hands of " + k, Looks.message(x, x.bag() - 1), HANDS, last, 2, round + 1, k, 0, 0, 0);
            Looks.pass(x, HANDS, last, 2);
            DUE.row("its answer of " + k, Looks.message(x, x.bag() - 1), 15, last, 2, round + 1, k, 0, 0, 0);
            while (x.client(2, 0) >= 0 && x.bag() > 0) {
                x.deliver(0);
            }
            DUE.same("news of " + k, x.message(x.bag() - 1, 0), NEWS);
            DUE.same("have no number", x.message(x.bag() - 1, 4), 0);
            Looks.drain(x);
        }
    }
}
