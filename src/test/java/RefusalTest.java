import java.util.List;
import java.util.function.Supplier;
import java.util.function.ToIntFunction;

/**
 * The calls that do something, promises 2 to 6 and 9 to 12: at each bound the last input that is
 * taken and the first that is not; a refused one leaves all as it was.
 */
public final class RefusalTest {
    private static final Due DUE = new Due("RefusalTest");
    private static final int LEAST = Integer.MIN_VALUE;
    private static final int MOST = Integer.MAX_VALUE;
    private static final int NONE = -1;
    private static final List<Supplier<Fleet>> ALL_STATES = List.of(Fleet::new, States::ready, States::underWay);
    private static final String[] KINDS = {"read", "write", "change", "move"};

    private RefusalTest() {
    }

    public static void main(String[] args) {
        beginTakesThreeToSevenServers();
        beginTakesSetsOfItsServers();
        beginLeavesNothingOfWhatWas();
        clientsAre0To3();
        registersAre0To2();
        oneOperationAtATime();
        whoHasStoppedBeginsNothing();
        aClientThatStoppedInItsOperationBeginsNothing();
        sixtyBegin();
        changeTakesSetsOfTheServers();
        changeBeginsUpToNumber4();
        moveBeginsUpToNumber4();
        moveNeedsTheNextSet();
        deliverTakesMessagesOfTheBag();
        loseTakesMessagesOfTheBag();
        runTakes0To1000();
        stopTakesServersOnce();
        stopTakesClientsOnce();
        DUE.end();
    }

    /** The call answers so, and neither what can be seen now nor what comes of it later is changed by it. */
    private static void refused(Supplier<Fleet> state, String call, int want, ToIntFunction<Fleet> made) {
        Fleet x = state.get();
        Fleet untouched = state.get();
        DUE.same(call, made.applyAsInt(x), want);
        DUE.alike("refused " + call, x, untouched);
        x.run(77, 300);
        untouched.run(77, 300);
        DUE.alike("later on, refused " + call, x, untouched);
    }

    private static void taken(Supplier<Fleet> state, String call, int want, ToIntFunction<Fleet> made) {
        DUE.same(call, made.applyAsInt(state.get()), want);
    }

    /** "S 3 .. 7"; "false, and nothing is done, if that can't be." */
    private static void beginTakesThreeToSevenServers() {
        for (int servers : new int[] {LEAST, -1, 0, 1, 2, 8, 9, 32, 35, MOST}) {
            for (Supplier<Fleet> state : ALL_STATES) {
                refused(state, "begin(" + servers + ", 1)", 0, x -> x.begin(servers, 1) ? 1 : 0);
            }
        }
        for (int servers = 3; servers <= 7; servers++) {
            int count = servers;
            for (Supplier<Fleet> state : ALL_STATES) {
                taken(state, "begin(" + servers + ", 1)", 1, x -> x.begin(count, 1) ? 1 : 0);
            }
        }
    }

    /** "A SET of SERVERS is a number (SERVER s counts 2 to the s), not 0." */
    private static void beginTakesSetsOfItsServers() {
        for (int servers = 3; servers <= 7; servers++) {
            int count = servers;
            for (int set : new int[] {LEAST, -1, 0, 1 << servers, (1 << servers) + 1, 1 << 30, MOST}) {
                refused(States::underWay, "begin(" + servers + ", " + set + ")", 0, x -> x.begin(count, set) ? 1 : 0);
            }
            for (int set = 1; set < 1 << servers; set++) {
                int all = set;
                Fleet x = new Fleet();
                DUE.yes("begin(" + servers + ", " + set + ")", x.begin(count, all));
                DUE.same("the first set", x.map(true, 0, 0), all);
                x.read(0, 0);
                DUE.same("is asked", x.client(0, 2), all);
            }
        }
    }

    /** "All begins anew with so many SERVERS and the first SET". */
    private static void beginLeavesNothingOfWhatWas() {
        for (Supplier<Fleet> state : ALL_STATES) {
            for (int servers = 3; servers <= 7; servers++) {
                Fleet x = state.get();
                Fleet fresh = new Fleet();
                x.begin(servers, 5);
                fresh.begin(servers, 5);
                DUE.alike("begun anew", x, fresh);
                for (Fleet each : new Fleet[] {x, fresh}) {
                    each.change(3, 6);
                    each.write(1, 2, 8);
                    each.run(4, 1000);
                    each.move(3);
                    each.read(2, 2);
                    each.run(5, 9);
                }
                DUE.alike("what is done after it", x, fresh);
            }
        }
    }

    /** "CLIENTS 0 .. 3"; "NONE, and nothing is done: no such CLIENT". */
    private static void clientsAre0To3() {
        for (int kind = 0; kind < 4; kind++) {
            int asked = kind;
            for (int c : new int[] {LEAST, -1, 4, 5, MOST}) {
                refused(States::ready, KINDS[kind] + " by client " + c, NONE, x -> States.begin(x, asked, c));
            }
            for (int c = 0; c < 4; c++) {
                int who = c;
                taken(States::ready, KINDS[kind] + " by client " + c, 5, x -> States.begin(x, asked, who));
            }
        }
    }

    /** "REGISTERS 0 .. 2"; "NONE, and nothing is done: no such CLIENT or REGISTER". */
    private static void registersAre0To2() {
        for (int r : new int[] {LEAST, -1, 3, 4, MOST}) {
            refused(States::ready, "read(0, " + r + ")", NONE, x -> x.read(0, r));
            refused(States::ready, "write(0, " + r + ", 1)", NONE, x -> x.write(0, r, 1));
        }
        for (int each = 0; each < 3; each++) {
            int r = each;
            taken(States::ready, "read(0, " + r + ")", 5, x -> x.read(0, r));
            taken(States::ready, "write(0, " + r + ", 1)", 5, x -> x.write(0, r, 1));
        }
    }

    /** "A CLIENT does one OPERATION at a time"; "it does one already". */
    private static void oneOperationAtATime() {
        for (int doing = 0; doing < 4; doing++) {
            for (int asked = 0; asked < 4; asked++) {
                int first = doing;
                int second = asked;
                String call = KINDS[asked] + " behind " + KINDS[doing];
                refused(() -> doing(first, 1), call + " in its first round", NONE, x -> States.begin(x, second, 2));
                refused(() -> doing(first, 2), call + " in its second round", NONE, x -> States.begin(x, second, 2));
                taken(() -> doing(first, 3), call + " that ended", 6, x -> States.begin(x, second, 2));
                taken(() -> doing(first, 1), KINDS[asked] + " of another client", 6, x -> States.begin(x, second, 1));
            }
        }
    }

    /** Client 2 does this kind and is in that round of it, or has ended it. */
    private static Fleet doing(int kind, int round) {
        Fleet x = States.ready();
        States.begin(x, kind, 2);
        if (round > 1) {
            States.toRoundTwo(x, 2);
        }
        if (round > 2) {
            x.run(8, 1000);
        }
        DUE.same(KINDS[kind] + " is in round", x.client(2, 4), round % 3);
        return x;
    }

    /** "or has STOPPED". */
    private static void whoHasStoppedBeginsNothing() {
        for (int kind = 0; kind < 4; kind++) {
            for (int c = 0; c < 4; c++) {
                int asked = kind;
                int who = c;
                refused(() -> stopped(who), KINDS[kind] + " by stopped client " + c, NONE, x -> States.begin(x, asked, who));
                taken(() -> stopped(who), KINDS[kind] + " by one behind it", 5, x -> States.begin(x, asked, (who + 1) % 4));
            }
        }
    }

    private static Fleet stopped(int c) {
        Fleet x = States.ready();
        x.stop(true, c);
        return x;
    }

    private static void aClientThatStoppedInItsOperationBeginsNothing() {
        for (int kind = 0; kind < 4; kind++) {
            int asked = kind;
            refused(() -> stoppedIn(asked), KINDS[kind] + " by one that stopped in its own", NONE,
                x -> States.begin(x, asked, 2));
        }
    }

    private static Fleet stoppedIn(int kind) {
        Fleet x = doing(kind, 2);
        x.stop(true, 2);
        return x;
    }

    /** "OPERATIONS are numbered 0, 1, .. as they begin, 60 at most."; "or 60 began." */
    private static void sixtyBegin() {
        for (int kind = 0; kind < 4; kind++) {
            int asked = kind;
            taken(States::fiftyNineBegan, "the sixtieth, a " + KINDS[kind], 59, x -> States.begin(x, asked, 0));
            for (int ended = 0; ended < 2; ended++) {
                boolean all = ended == 1;
                refused(() -> sixty(asked, all), "the sixty-first, a " + KINDS[kind], NONE,
                    x -> States.begin(x, asked, 1));
            }
            Fleet x = sixty(kind, true);
            DUE.same("began", x.count(0), 60);
            DUE.same("the last one's kind", x.operation(59, 0), kind);
            DUE.same("none is numbered 60", x.operation(60, 0), -2);
            x.begin(3, 7);
            DUE.same("begun anew it is numbered", x.read(0, 0), 0);
        }
    }

    private static Fleet sixty(int lastKind, boolean ended) {
        Fleet x = States.fiftyNineBegan();
        States.begin(x, lastKind, 0);
        if (ended) {
            x.run(6, 1000);
        }
        return x;
    }

    /** "NONE, too: no such SET". */
    private static void changeTakesSetsOfTheServers() {
        for (int servers = 3; servers <= 7; servers++) {
            int count = servers;
            for (int set : new int[] {LEAST, -1, 0, 1 << servers, (1 << servers) + 1, 128, 1 << 30, MOST}) {
                refused(() -> of(count), servers + " servers, change(0, " + set + ")", NONE, x -> x.change(0, set));
            }
            for (int set = 1; set < 1 << servers; set++) {
                Fleet x = of(count);
                DUE.same(servers + " servers, change(0, " + set + ")", x.change(0, set), 0);
                x.run(set, 1000);
                DUE.same("it has the set", x.map(true, 0, 1), set);
            }
        }
    }

    private static Fleet of(int servers) {
        Fleet x = new Fleet();
        x.begin(servers, 7);
        return x;
    }

    /** "k is the greatest number that has something in the MAP as it begins (5: it can't begin)". */
    private static void changeBeginsUpToNumber4() {
        for (int known = 0; known <= 4; known++) {
            Fleet x = knowing(known, false);
            DUE.same("change beyond number " + known, x.change(0, 5), known);
            DUE.same("it is of", x.message(0, 4), known);
            x.run(3, 1000);
            DUE.same("the next number has it", x.map(true, 0, known + 1), 5);
            x = knowing(known, true);
            int moved = x.count(0);
            DUE.same("change beyond number " + known + ", the rest gone", x.change(0, 5), moved);
            DUE.same("it is of", x.message(0, 4), known);
        }
        refused(States::allChanged, "change beyond number 5", NONE, x -> x.change(0, 5));
        refused(States::allMoved, "change beyond number 5, the rest gone", NONE, x -> x.change(0, 5));
    }

    /** Client 0 knows this number, and none beyond it; those ahead of it may be gone. */
    private static Fleet knowing(int number, boolean moved) {
        Fleet x = new Fleet();
        for (int k = 0; k < number; k++) {
            x.change(0, 7 - k);
            x.run(k, 1000);
            if (moved) {
                x.move(0);
                x.run(k, 1000);
            }
        }
        return x;
    }

    /** "k is the least ACTIVE number as it begins, with a SET j of the next number k + 1 (else it can't begin)". */
    private static void moveBeginsUpToNumber4() {
        Fleet x = States.allChanged();
        for (int k = 0; k <= 4; k++) {
            DUE.same("move of number " + k, x.move(0), 5 + k);
            DUE.same("it is of", x.operation(5 + k, 2), k);
            x.run(k, 1000);
        }
        DUE.row("number 5 is left", Looks.map(x, true, 0), -1, -1, -1, -1, -1, 6);
        refused(States::allMoved, "move of number 5", NONE, y -> y.move(0));
    }

    private static void moveNeedsTheNextSet() {
        for (int known = 0; known <= 4; known++) {
            int number = known;
            refused(() -> knowing(number, true), "move of number " + known + " alone", NONE, x -> x.move(0));
            taken(() -> {
                Fleet x = knowing(number, true);
                x.change(0, 3);
                x.run(1, 1000);
                return x;
            }, "move of number " + known + " and the next", 2 * known + 1, x -> x.move(0));
        }
        refused(States::allChanged, "move by one that knows number 0 alone", NONE, x -> x.move(1));
        refused(Fleet::new, "move of a new object", NONE, x -> x.move(0));
    }

    /** The bag has so many questions, to servers 0, 1, .. in this order. */
    private static Fleet withMessages(int messages) {
        Fleet x = new Fleet();
        if (messages > 0) {
            x.begin(7, (1 << messages) - 1);
            x.read(0, 0);
        }
        DUE.same("bag", x.bag(), messages);
        return x;
    }

    /** "MESSAGE i is delivered: 1; 0 if nobody got it. NONE if there is none such." */
    private static void deliverTakesMessagesOfTheBag() {
        for (int messages = 0; messages <= 7; messages++) {
            int size = messages;
            for (int i : new int[] {LEAST, -1, size, size + 1, MOST}) {
                refused(() -> withMessages(size), "deliver(" + i + ") of " + size, NONE, x -> x.deliver(i));
            }
            for (int i = 0; i < size; i++) {
                Fleet x = withMessages(size);
                DUE.same("deliver(" + i + ") of " + size, x.deliver(i), 1);
                DUE.same("the answer is the last", x.message(size - 1, 1), i);
                DUE.same("it is an answer", x.message(size - 1, 0), 10);
                for (int j = 0; j < size - 1; j++) {
                    DUE.same("place " + j + " behind deliver(" + i + ")", x.message(j, 1), j < i ? j : j + 1);
                }
                x = withMessages(size);
                x.stop(false, i);
                DUE.same("deliver(" + i + ") to nobody", x.deliver(i), 0);
                DUE.same("it is gone", x.bag(), size - 1);
            }
        }
        refused(States::underWay, "deliver(-1)", NONE, x -> x.deliver(-1));
        refused(States::underWay, "deliver(bag())", NONE, x -> x.deliver(x.bag()));
    }

    /** "MESSAGE i is lost: true; false if there is none such."; "then those behind it have numbers less by one". */
    private static void loseTakesMessagesOfTheBag() {
        for (int messages = 0; messages <= 7; messages++) {
            int size = messages;
            for (int i : new int[] {LEAST, -1, size, size + 1, MOST}) {
                refused(() -> withMessages(size), "lose(" + i + ") of " + size, 0, x -> x.lose(i) ? 1 : 0);
            }
            for (int i = 0; i < size; i++) {
                Fleet x = withMessages(size);
                DUE.yes("lose(" + i + ") of " + size, x.lose(i));
                DUE.same("bag", x.bag(), size - 1);
                DUE.same("nobody got it", x.count(4), 0);
                DUE.same("it was in the bag", x.count(3), size);
                for (int j = 0; j < size - 1; j++) {
                    DUE.same("place " + j + " behind lose(" + i + ")", x.message(j, 1), j < i ? j : j + 1);
                }
            }
        }
        refused(States::underWay, "lose(-1)", 0, x -> x.lose(-1) ? 1 : 0);
        refused(States::underWay, "lose(bag())", 0, x -> x.lose(x.bag()) ? 1 : 0);
    }

    /** "up to n (0 .. 1000)"; "NONE for another n." */
    private static void runTakes0To1000() {
        for (int n : new int[] {LEAST, -1000, -1, 1001, 1002, MOST}) {
            refused(States::underWay, "run(1, " + n + ")", NONE, x -> x.run(1, n));
            refused(Fleet::new, "run(1, " + n + ") of an empty bag", NONE, x -> x.run(1, n));
        }
        refused(States::underWay, "run(1, 0)", 0, x -> x.run(1, 0));
        for (int n : new int[] {0, 1, 999, 1000}) {
            refused(Fleet::new, "run(1, " + n + ") of an empty bag", 0, x -> x.run(1, n));
        }
        taken(States::underWay, "run(1, 1)", 1, x -> x.run(1, 1));
        int all = States.underWay().run(1, 999);
        DUE.yes("all that there is", all > 20 && all < 999);
        taken(States::underWay, "run(1, 1000)", all, x -> x.run(1, 1000));
    }

    /** SERVER s "STOPS for good: true; false if it has, or there is none such." */
    private static void stopTakesServersOnce() {
        for (int servers = 3; servers <= 7; servers++) {
            int count = servers;
            for (int s : new int[] {LEAST, -1, servers, servers + 1, 7, MOST}) {
                refused(() -> of(count), "stop(false, " + s + ") of " + servers, 0, x -> x.stop(false, s) ? 1 : 0);
            }
            for (int each = 0; each < servers; each++) {
                int s = each;
                taken(() -> of(count), "stop(false, " + s + ") of " + servers, 1, x -> x.stop(false, s) ? 1 : 0);
                refused(() -> {
                    Fleet x = of(count);
                    x.stop(false, s);
                    x.read(0, 0);
                    return x;
                }, "stop(false, " + s + ") again", 0, x -> x.stop(false, s) ? 1 : 0);
            }
        }
    }

    /** "(or, with client, CLIENT s)". */
    private static void stopTakesClientsOnce() {
        for (int c : new int[] {LEAST, -1, 4, 5, 6, MOST}) {
            refused(() -> of(7), "stop(true, " + c + ")", 0, x -> x.stop(true, c) ? 1 : 0);
        }
        for (int each = 0; each < 4; each++) {
            int c = each;
            taken(States::underWay, "stop(true, " + c + ")", 1, x -> x.stop(true, c) ? 1 : 0);
            refused(() -> {
                Fleet x = States.underWay();
                x.stop(true, c);
                return x;
            }, "stop(true, " + c + ") again", 0, x -> x.stop(true, c) ? 1 : 0);
            Fleet x = new Fleet();
            x.stop(true, c);
            for (int other = 0; other < 4; other++) {
                DUE.same("who has stopped", x.client(other, 6), other == c ? 1 : 0);
            }
            DUE.yes("the server of the same number has not", c == 3 || x.stop(false, c));
        }
    }
}
