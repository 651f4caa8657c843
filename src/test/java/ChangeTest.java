/** Promise 5 (change). */
public final class ChangeTest {
    private static final Due DUE = new Due("ChangeTest");
    private static final int PREPARES = 2;
    private static final int OFFERS = 3;
    private static final int NEWS = 6;

    private ChangeTest() {
    }

    public static void main(String[] args) {
        wrongOnesDoNothing();
        aChangeGoesInTwoRounds();
        newsGoToBothSets();
        onlyTheLastSetIsAsked();
        whatWasAcceptedIsOfferedAgain();
        theSameSetIsItsOwn();
        theGreatestBallotAcceptedIsOffered();
        aBadAnswerBeginsAnew();
        anAnswerOfAFormerBallotDoesNotCount();
        theNinthBadAnswerEndsIt();
        aBallotIsPromisedOnce();
        aMapEndsIt();
        aGoneNumberEndsIt();
        aFormerRoundsMapEndsIt();
        halfIsNotEnough();
        fiveIsTheLastNumber();
        DUE.end();
    }

    private static void wrongOnesDoNothing() {
        Fleet x = new Fleet();
        for (int c : new int[] {-1, 4, Integer.MIN_VALUE, Integer.MAX_VALUE}) {
            DUE.same("change by " + c, x.change(c, 1), -1);
        }
        for (int set : new int[] {0, -1, 8, Integer.MIN_VALUE, Integer.MAX_VALUE}) {
            DUE.same("change to " + set, x.change(0, set), -1);
        }
        DUE.same("bag", x.bag(), 0);
        x.read(0, 0);
        DUE.same("busy", x.change(0, 1), -1);
        x.stop(true, 1);
        DUE.same("stopped", x.change(1, 1), -1);
        DUE.same("the last set there is", x.change(2, 7), 1);
        DUE.same("began", x.count(0), 2);
        x.begin(7, 1);
        DUE.same("seven servers have more sets", x.change(0, 127), 0);
        DUE.same("but no more", x.change(1, 128), -1);
    }

    private static void aChangeGoesInTwoRounds() {
        Fleet x = new Fleet();
        x.begin(4, 7);
        DUE.same("change", x.change(3, 12), 0);
        DUE.row("begun", Looks.client(x, 3), 0, 1, 7, 0, 1, 7, 0);
        DUE.row("operation", Looks.operation(x, 0), 2, 3, 12, 0, 0, 0, 1, 0, 0);
        for (int s = 0; s < 3; s++) {
            DUE.row("prepares " + s, Looks.message(x, s), PREPARES, s, 3, 1, 0, 7, 0, 0);
        }
        Looks.pass(x, PREPARES, 1, 3);
        DUE.row("promised", Looks.votes(x, 1, 0), 7, 0, 0);
        DUE.row("a good answer with nothing accepted", Looks.message(x, x.bag() - 1), 12, 1, 3, 1, 0, 0, 0, 0);
        Looks.pass(x, 12, 1, 3);
        DUE.row("one well", Looks.client(x, 3), 0, 1, 7, 2, 1, 7, 0);
        Looks.ask(x, PREPARES, 2, 3);
        DUE.row("round 2", Looks.client(x, 3), 0, 2, 7, 0, 2, 7, 0);
        int first = Looks.find(x, i -> x.message(i, 0) == OFFERS);
        for (int s = 0; s < 3; s++) {
            DUE.row("offers " + s, Looks.message(x, first + s), OFFERS, s, 3, 2, 0, 7, 12, 0);
        }
        Looks.pass(x, OFFERS, 0, 3);
        DUE.row("accepted without a promise", Looks.votes(x, 0, 0), 7, 7, 12);
        DUE.row("a good answer", Looks.message(x, x.bag() - 1), 13, 0, 3, 2, 0, 0, 0, 0);
        Looks.pass(x, 13, 0, 3);
        DUE.same("one is not enough", x.operation(0, 4), 0);
        DUE.row("its map is as it was", Looks.map(x, true, 3), 7, 0, 0, 0, 0, 0);
        Looks.ask(x, OFFERS, 1, 3);
        DUE.row("ended with 1", Looks.operation(x, 0), 2, 3, 12, 0, 1, 1, 1, 2, 0);
        DUE.row("its map", Looks.map(x, true, 3), 7, 12, 0, 0, 0, 0);
        DUE.row("idle", Looks.client(x, 3), -1, 2, 0, 0, 0, 0, 0);
    }

    private static void newsGoToBothSets() {
        Fleet x = new Fleet();
        x.begin(6, 3);
        x.change(1, 50);
        Looks.ask(x, PREPARES, 0, 1);
        Looks.ask(x, PREPARES, 1, 1);
        Looks.ask(x, OFFERS, 0, 1);
        DUE.same("no news yet", x.bag(), 1);
        Looks.ask(x, OFFERS, 1, 1);
        int[] receivers = {0, 1, 4, 5};
        DUE.same("news", x.bag(), receivers.length);
        for (int i = 0; i < receivers.length; i++) {
            DUE.row("news " + i, Looks.message(x, i), NEWS, receivers[i], 1, 0, 0, 0, 0, 0);
            DUE.row("their map", Looks.messageMap(x, i), 3, 50, 0, 0, 0, 0);
        }
        DUE.same("delivered", x.deliver(2), 1);
        DUE.same("without an answer", x.bag(), 3);
        DUE.row("server 4 has it", Looks.map(x, false, 4), 3, 50, 0, 0, 0, 0);
        DUE.row("server 5 does not", Looks.map(x, false, 5), 3, 0, 0, 0, 0, 0);
    }

    private static void onlyTheLastSetIsAsked() {
        Fleet x = new Fleet();
        x.begin(5, 7);
        x.change(0, 24);
        Looks.drain(x);
        DUE.same("change", x.change(0, 1), 1);
        DUE.row("set 1 alone", Looks.client(x, 0), 1, 3, 24, 0, 1, 4, 0);
        DUE.row("k is 1", Looks.message(x, 0), PREPARES, 3, 0, 3, 1, 4, 0, 0);
        Looks.drain(x);
        DUE.row("ended with 1", Looks.operation(x, 1), 2, 0, 1, 0, 1, 1, 3, 4, 0);
        DUE.row("votes of 1", Looks.votes(x, 3, 1), 4, 4, 1);
        DUE.row("server 0 has none of 1", Looks.votes(x, 0, 1), 0, 0, 0);
        DUE.row("server 3 has none of 0", Looks.votes(x, 3, 0), 0, 0, 0);
        DUE.row("the answer keeps to the same number", Looks.map(x, false, 3), 7, 24, 1, 0, 0, 0);
    }

    /** Client 1 has offered its set by ballot 5, and server 0 alone accepted it. */
    private static Fleet halfAccepted(int set) {
        Fleet x = new Fleet();
        x.change(1, set);
        Looks.ask(x, PREPARES, 0, 1);
        Looks.ask(x, PREPARES, 1, 1);
        Looks.pass(x, OFFERS, 0, 1);
        Looks.loseAll(x);
        return x;
    }

    private static void whatWasAcceptedIsOfferedAgain() {
        Fleet x = halfAccepted(4);
        x.change(2, 2);
        Looks.pass(x, PREPARES, 0, 2);
        DUE.row("told what was accepted", Looks.message(x, x.bag() - 1), 12, 0, 2, 1, 0, 5, 4, 0);
        Looks.pass(x, 12, 0, 2);
        Looks.ask(x, PREPARES, 2, 2);
        DUE.row("it offers that", Looks.message(x, x.bag() - 1), OFFERS, 2, 2, 2, 0, 6, 4, 0);
        Looks.drain(x);
        DUE.row("ended with 0", Looks.operation(x, 1), 2, 2, 2, 0, 1, 0, 2, 3, 0);
        DUE.row("the other's set is agreed on", Looks.map(x, true, 2), 7, 4, 0, 0, 0, 0);
        DUE.row("accepted by the new ballot", Looks.votes(x, 2, 0), 6, 6, 4);
        DUE.row("the other one has no answer", Looks.operation(x, 0), 2, 1, 4, 0, 0, 0, 1, 0, 0);
    }

    private static void theSameSetIsItsOwn() {
        Fleet x = halfAccepted(4);
        x.change(2, 4);
        Looks.drain(x);
        DUE.row("ended with 1", Looks.operation(x, 1), 2, 2, 4, 0, 1, 1, 2, 3, 0);
    }

    private static void theGreatestBallotAcceptedIsOffered() {
        int[][] orders = {{0, 1, 2}, {1, 0, 2}, {2, 1, 0}};
        for (int[] order : orders) {
            Fleet x = new Fleet();
            x.begin(5, 31);
            x.change(0, 1);
            for (int s = 0; s < 3; s++) {
                Looks.ask(x, PREPARES, s, 0);
            }
            Looks.pass(x, OFFERS, 0, 0);
            x.change(1, 2);
            for (int s = 1; s < 4; s++) {
                Looks.ask(x, PREPARES, s, 1);
            }
            Looks.pass(x, OFFERS, 1, 1);
            DUE.row("server 0 accepted", Looks.votes(x, 0, 0), 4, 4, 1);
            DUE.row("server 1 accepted", Looks.votes(x, 1, 0), 5, 5, 2);
            x.change(2, 16);
            for (int s : order) {
                Looks.ask(x, PREPARES, s, 2);
            }
            DUE.row("the set of ballot 5", Looks.message(x, x.bag() - 1), OFFERS, 4, 2, 2, 0, 6, 2, 0);
        }
    }

    private static void aBadAnswerBeginsAnew() {
        Fleet x = new Fleet();
        x.change(0, 1);
        x.change(3, 2);
        Looks.ask(x, PREPARES, 1, 0);
        Looks.ask(x, PREPARES, 0, 3);
        Looks.pass(x, PREPARES, 0, 0);
        DUE.row("bad, with the promise", Looks.message(x, x.bag() - 1), 12, 0, 0, 1, 0, 7, 0, 1);
        DUE.row("the promise stays", Looks.votes(x, 0, 0), 7, 0, 0);
        int before = x.bag();
        Looks.pass(x, 12, 0, 0);
        DUE.row("anew beyond it", Looks.client(x, 0), 0, 2, 7, 0, 1, 8, 0);
        DUE.same("all are asked anew", x.bag(), before - 1 + 3);
        DUE.row("by the new ballot", Looks.message(x, x.bag() - 3), PREPARES, 0, 0, 2, 0, 8, 0, 0);
        DUE.same("counted", x.operation(0, 8), 1);
        Looks.ask(x, PREPARES, 2, 0);
        Looks.ask(x, PREPARES, 1, 0);
        DUE.row("round 2 by the new ballot", Looks.client(x, 0), 0, 3, 7, 0, 2, 8, 0);
        Looks.ask(x, PREPARES, 2, 3);
        DUE.row("the other one begins anew beyond 8", Looks.client(x, 3), 1, 2, 7, 0, 1, 15, 0);
        Looks.ask(x, PREPARES, 0, 3);
        Looks.ask(x, OFFERS, 0, 0);
        DUE.row("a bad offer begins anew too", Looks.client(x, 0), 0, 4, 7, 0, 1, 16, 0);
        DUE.row("and is not accepted", Looks.votes(x, 0, 0), 15, 0, 0);
        DUE.same("counted", x.operation(0, 8), 2);
        DUE.same("the other one's", x.operation(1, 8), 1);
    }

    private static void anAnswerOfAFormerBallotDoesNotCount() {
        Fleet x = new Fleet();
        x.change(0, 1);
        x.change(1, 2);
        Looks.pass(x, PREPARES, 2, 0);
        Looks.pass(x, PREPARES, 0, 1);
        Looks.pass(x, PREPARES, 1, 1);
        Looks.pass(x, PREPARES, 0, 0);
        Looks.pass(x, PREPARES, 1, 0);
        Looks.pass(x, 12, 0, 0);
        DUE.row("anew", Looks.client(x, 0), 0, 2, 7, 0, 1, 8, 0);
        Looks.pass(x, 12, 2, 0);
        DUE.row("a good one of the former round", Looks.client(x, 0), 0, 2, 7, 0, 1, 8, 0);
        Looks.pass(x, 12, 1, 0);
        DUE.row("a bad one of the former round", Looks.client(x, 0), 0, 2, 7, 0, 1, 8, 0);
        DUE.same("bad answers", x.operation(0, 8), 1);
    }

    private static void theNinthBadAnswerEndsIt() {
        Fleet x = new Fleet();
        x.begin(3, 1);
        x.change(0, 2);
        x.change(1, 4);
        Looks.pass(x, PREPARES, 0, 1);
        Looks.ask(x, PREPARES, 0, 0);
        Looks.pass(x, 12, 0, 1);
        for (int bad = 1; bad <= 8; bad++) {
            DUE.row("client 0 anew", Looks.client(x, 0), 0, 2 * bad, 1, 0, 1, 8 * bad, 0);
            DUE.same("bad answers", x.operation(0, 8), bad);
            Looks.ask(x, PREPARES, 0, 0);
            Looks.ask(x, OFFERS, 0, 1);
            DUE.row("client 1 anew", Looks.client(x, 1), 1, 2 * bad + 1, 1, 0, 1, 8 * bad + 5, 0);
            Looks.ask(x, PREPARES, 0, 1);
            Looks.ask(x, OFFERS, 0, 0);
        }
        DUE.row("the ninth", Looks.operation(x, 0), 2, 0, 2, 0, 1, 0, 1, 3, 9);
        DUE.row("client 0 is idle", Looks.client(x, 0), -1, 17, 0, 0, 0, 0, 0);
        DUE.same("nothing new is asked but client 1's offer", x.bag(), 1);
        DUE.row("its map", Looks.map(x, true, 0), 1, 0, 0, 0, 0, 0);
        DUE.same("it may begin again", x.change(0, 6), 2);
        DUE.same("by its first ballot", x.client(0, 5), 4);
        Looks.ask(x, OFFERS, 0, 1);
        DUE.row("client 1 ends with eight", Looks.operation(x, 1), 2, 1, 4, 0, 1, 1, 2, 5, 8);
    }

    /** Server 1 promises client 1 alone, server 2 client 0 alone, and server 0 only client 0's first ballot. */
    private static void aBallotIsPromisedOnce() {
        Fleet x = new Fleet();
        x.change(0, 1);
        x.change(1, 2);
        Looks.ask(x, PREPARES, 0, 0);
        for (int bad = 1; bad <= 9; bad++) {
            Looks.ask(x, PREPARES, 1, 1);
            Looks.ask(x, PREPARES, 1, 0);
            DUE.same("bad answers", x.operation(0, 8), bad);
            Looks.ask(x, PREPARES, 2, 0);
            Looks.ask(x, PREPARES, 2, 1);
        }
        DUE.same("the ninth ends it", x.operation(0, 4), 1);
        DUE.row("server 0 promised 4", Looks.votes(x, 0, 0), 4, 0, 0);
        Looks.loseAll(x);
        x.change(0, 1);
        Looks.pass(x, PREPARES, 0, 0);
        DUE.row("not again", Looks.message(x, x.bag() - 1), 12, 0, 0, 10, 0, 4, 0, 1);
        Looks.pass(x, 12, 0, 0);
        DUE.row("anew", Looks.client(x, 0), 2, 11, 7, 0, 1, 8, 0);
        DUE.same("its own bad answers", x.operation(2, 8), 1);
    }

    private static void aMapEndsIt() {
        int[] sets = {2, 4};
        for (int set : sets) {
            Fleet x = new Fleet();
            x.change(0, set);
            x.change(1, 4);
            Looks.ask(x, PREPARES, 0, 1);
            Looks.ask(x, PREPARES, 1, 1);
            Looks.ask(x, OFFERS, 0, 1);
            Looks.ask(x, OFFERS, 1, 1);
            Looks.pass(x, NEWS, 0, 1);
            Looks.pass(x, PREPARES, 0, 0);
            int before = x.bag();
            DUE.same("the answer is bad", x.message(before - 1, 7), 1);
            Looks.pass(x, 12, 0, 0);
            DUE.row("ended without counting it", Looks.operation(x, 0), 2, 0, set, 0, 1, set == 4 ? 1 : 0, 1, 4, 0);
            DUE.same("nothing is asked", x.bag(), before - 1);
            DUE.same("the next one is of number 1", x.change(0, 7), 2);
            DUE.row("asking the new set", Looks.client(x, 0), 2, 2, 4, 0, 1, 4, 0);
        }
    }

    private static void aGoneNumberEndsIt() {
        Fleet x = new Fleet();
        x.change(0, 2);
        for (int set : new int[] {2, 5}) {
            x.change(1, set);
            Looks.ask(x, PREPARES, set == 2 ? 2 : 1, 1);
            Looks.ask(x, PREPARES, 1, 1);
            Looks.ask(x, OFFERS, set == 2 ? 2 : 1, 1);
            Looks.ask(x, OFFERS, 1, 1);
        }
        DUE.row("client 1's map", Looks.map(x, true, 1), 7, 2, 5, 0, 0, 0);
        for (int k = 0; k < 2; k++) {
            x.move(1);
            for (int s = 0; s < 3; s++) {
                Looks.ask(x, 4, s, 1);
            }
            for (int s = 0; s < 3; s++) {
                Looks.ask(x, 5, s, 1);
            }
        }
        DUE.row("client 1's map", Looks.map(x, true, 1), -1, -1, 5, 0, 0, 0);
        Looks.pass(x, NEWS, 1, 1);
        DUE.row("server 1's map", Looks.map(x, false, 1), -1, -1, 5, 0, 0, 0);
        Looks.ask(x, PREPARES, 1, 0);
        DUE.row("client 0's map", Looks.map(x, true, 0), -1, -1, 5, 0, 0, 0);
        DUE.same("ended", x.operation(0, 4), 1);
        DUE.same("with 0, as number 1 is gone", x.operation(0, 5), 0);
        DUE.same("not counted", x.operation(0, 8), 0);
    }

    private static void aFormerRoundsMapEndsIt() {
        Fleet x = new Fleet();
        x.change(0, 4);
        x.change(1, 4);
        Looks.ask(x, PREPARES, 0, 1);
        Looks.ask(x, PREPARES, 0, 0);
        DUE.row("round 2, begun anew", Looks.client(x, 0), 0, 2, 7, 0, 1, 8, 0);
        Looks.ask(x, PREPARES, 1, 1);
        Looks.ask(x, OFFERS, 1, 1);
        Looks.ask(x, OFFERS, 2, 1);
        Looks.pass(x, NEWS, 2, 1);
        int old = Looks.find(x, i -> x.message(i, 0) == PREPARES && x.message(i, 1) == 2 && x.message(i, 3) == 1
            && x.message(i, 2) == 0);
        x.deliver(old);
        x.deliver(x.bag() - 1);
        DUE.row("ended with 1", Looks.operation(x, 0), 2, 0, 4, 0, 1, 1, 1, 4, 1);
    }

    private static void halfIsNotEnough() {
        Fleet x = new Fleet();
        x.begin(4, 15);
        x.change(0, 1);
        Looks.ask(x, PREPARES, 0, 0);
        Looks.ask(x, PREPARES, 3, 0);
        DUE.row("two of four", Looks.client(x, 0), 0, 1, 15, 9, 1, 4, 0);
        Looks.ask(x, PREPARES, 1, 0);
        DUE.same("three of four", x.client(0, 4), 2);
        Looks.ask(x, OFFERS, 0, 0);
        Looks.ask(x, OFFERS, 2, 0);
        DUE.same("two of four accepted", x.operation(0, 4), 0);
        Looks.ask(x, OFFERS, 3, 0);
        DUE.same("three of four accepted", x.operation(0, 4), 1);
    }

    private static void fiveIsTheLastNumber() {
        Fleet x = new Fleet();
        int[] sets = {1, 2, 4, 3, 6};
        for (int i = 0; i < sets.length; i++) {
            DUE.same("change " + i, x.change(0, sets[i]), i);
            Looks.drain(x);
            DUE.same("ended with", x.operation(i, 5), 1);
            DUE.same("number " + (i + 1), x.map(true, 0, i + 1), sets[i]);
        }
        DUE.same("number 5 is the last", x.change(0, 1), -1);
        DUE.same("began", x.count(0), 5);
        DUE.same("bag", x.bag(), 0);
        DUE.row("all numbers have a set", Looks.map(x, true, 0), 7, 1, 2, 4, 3, 6);
        DUE.row("votes of 4", Looks.votes(x, 0, 4), 4, 4, 6);
        DUE.same("one that knows less may", x.change(3, 1), 5);
    }
}
