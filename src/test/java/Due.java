/** Compares answers with those that are due, tells each that differs, and ends with exit code 1 if one did. */
final class Due {
    private final String name;
    private int right;
    private int wrong;

    Due(String name) {
        this.name = name;
    }

    void same(String what, long got, long want) {
        if (got == want) {
            right++;
            return;
        }
        wrong++;
        System.out.println(name + ": " + what + " answered " + got + ", due is " + want);
    }

    void yes(String what, boolean got) {
        same(what, got ? 1 : 0, 1);
    }

    void no(String what, boolean got) {
        same(what, got ? 1 : 0, 0);
    }

    /** The fields of a message, a client or an operation, from 0 on. */
    void row(String what, int[] got, int... want) {
        same(what + " has fields", got.length, want.length);
        for (int i = 0; i < Math.min(got.length, want.length); i++) {
            same(what + " field " + i, got[i], want[i]);
        }
    }

    /** Two fleets that show the same. */
    void alike(String what, Fleet got, Fleet want) {
        String difference = Sight.of(got).differsFrom(Sight.of(want));
        yes(difference.isEmpty() ? what : what + ": " + difference, difference.isEmpty());
    }

    void end() {
        System.out.println(name + ": " + right + " answers as due, " + wrong + " not");
        if (wrong != 0 || right == 0) {
            System.exit(1);
        }
    }
}
