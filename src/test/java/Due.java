/** Counts the answers that are not the ones due, and prints each of them with the sentence it breaks. */
final class Due {
    /** Numbers far outside of every range that the document names. */
    static final int[] FAR = {Integer.MIN_VALUE, Integer.MIN_VALUE + 1, -65536, -2001, -256,
        65536, 1 << 24, Integer.MAX_VALUE - 1, Integer.MAX_VALUE};

    private final String test;
    private String sentence = "";
    private int looked = 0;
    private int wrong = 0;

    Due(String test) {
        this.test = test;
    }

    /** Tests one sentence of the document; no call may throw, so one that does is a wrong answer. */
    void test(String words, Runnable calls) {
        sentence = " [" + words + "]";
        int before = looked;
        try {
            calls.run();
        } catch (RuntimeException e) {
            wrong++;
            System.out.println(test + sentence + ": a call threw " + e);
        }
        // A test that looks at nothing would pass whatever the program does.
        if (looked == before) {
            wrong++;
            System.out.println(test + sentence + ": no answer was looked at");
        }
    }

    void is(String call, int got, int want) {
        looked++;
        if (got != want) {
            wrong++;
            System.out.println(test + sentence + ": " + call + " answered " + got + ", due is " + want);
        }
    }

    void is(String call, boolean got, boolean want) {
        is(call, got ? 1 : 0, want ? 1 : 0);
    }

    void same(String what, String got, String want) {
        looked++;
        if (!got.equals(want)) {
            wrong++;
            System.out.println(test + sentence + ": " + what + " is " + got + ", due is " + want);
        }
    }

    /** What state() and length() answer. */
    void stands(String when, WideHash x, int state, int length) {
        is(when + ": state()", x.state(), state);
        is(when + ": length()", x.length(), length);
    }

    /** The words of a digest, and 0 for all others; some 30 of the 512 calls that x has. */
    void words(String when, WideHash x, int... want) {
        for (int i = -2; i < 18; i++) {
            is(when + ": word(" + i + ")", x.word(i), i >= 0 && i < want.length ? want[i] : 0);
        }
        for (int i : FAR) {
            is(when + ": word(" + i + ")", x.word(i), 0);
        }
    }

    /** Closes an open digest and looks at all that there is of it then. */
    void ends(String when, WideHash x, Kind kind, byte... message) {
        ends(when, x, kind, Kind.NO_KEY, message);
    }

    void ends(String when, WideHash x, Kind kind, int[] key, byte[] message) {
        is(when + ": close()", x.close(), true);
        stands(when + ", closed", x, kind.state + 4, message.length);
        words(when + ", closed", x, kind.digest(key, message));
    }

    /** Ends the program: with exit code 1 if an answer was wrong or none was looked at. */
    void end() {
        System.out.println(test + ": " + looked + " answers looked at, " + wrong + " not as due");
        System.exit(wrong == 0 && looked > 0 ? 0 : 1);
    }
}
