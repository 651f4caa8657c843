/** Fleets in states that more than one test begins with. */
final class States {
    private States() {
    }

    /** Nobody does anything; everybody knows the sets 0, 1 and 2, so that each kind can begin twice. */
    static Fleet ready() {
        Fleet x = new Fleet();
        x.begin(4, 7);
        x.change(0, 14);
        x.run(1, 1000);
        x.change(0, 11);
        x.run(2, 1000);
        for (int c = 1; c < 4; c++) {
            x.read(c, c - 1);
            x.run(2 + c, 1000);
        }
        return x;
    }

    /** Each client does another kind, in either round, and server 4 has stopped. */
    static Fleet underWay() {
        Fleet x = new Fleet();
        x.begin(5, 7);
        x.write(0, 0, 5);
        x.run(1, 1000);
        x.change(1, 28);
        x.run(2, 1000);
        x.read(2, 1);
        x.run(3, 1000);
        x.write(2, 0, 6);
        toRoundTwo(x, 2);
        x.move(1);
        Looks.ask(x, 4, 1, 1);
        x.read(0, 1);
        Looks.ask(x, 0, 0, 0);
        x.stop(false, 4);
        x.change(3, 3);
        Looks.pass(x, 2, 2, 3);
        return x;
    }

    /** One client knows all numbers: those ahead of 5 have no set but GONE, and nobody does anything. */
    static Fleet allMoved() {
        Fleet x = allChanged();
        for (int k = 0; k < 5; k++) {
            x.move(0);
            x.run(k, 1000);
        }
        return x;
    }

    /** Client 0 and all three servers have a set for each number. */
    static Fleet allChanged() {
        Fleet x = new Fleet();
        for (int set : new int[] {6, 5, 3, 7, 6}) {
            x.change(0, set);
            x.run(set, 1000);
        }
        return x;
    }

    /** Delivers the oldest message till the client is in the second round of what it does. */
    static void toRoundTwo(Fleet x, int c) {
        for (int i = 0; i < 100 && x.client(c, 4) == 1; i++) {
            x.deliver(0);
        }
    }

    /** Sixty have begun but for one, and nobody does anything. */
    static Fleet fiftyNineBegan() {
        Fleet x = ready();
        for (int n = x.count(0); n < 59; n++) {
            x.read(n % 4, 0);
            x.run(n, 1000);
        }
        return x;
    }

    /**
     * Client 0's change to servers 0 and 1 has had so many bad answers, its rival's, client 1's, of
     * server 2, one less. Server 0 promised client 0's first ballot alone.
     */
    static Fleet beaten(int badAnswers) {
        Fleet x = new Fleet();
        x.change(0, 3);
        x.change(1, 4);
        Looks.ask(x, 2, 0, 0);
        for (int bad = 1; bad <= badAnswers; bad++) {
            if (bad > 1) {
                Looks.ask(x, 2, 2, 0);
                Looks.ask(x, 2, 2, 1);
            }
            Looks.ask(x, 2, 1, 1);
            Looks.ask(x, 2, 1, 0);
        }
        return x;
    }

    /** Begins a kind that can begin in the state ready. */
    static int begin(Fleet x, int kind, int c) {
        switch (kind) {
            case 0: return x.read(c, 0);
            case 1: return x.write(c, 0, 9);
            case 2: return x.change(c, 3);
            default: return x.move(c);
        }
    }
}
