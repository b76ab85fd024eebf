/** Counts the answers that are as due and prints those that are not. */
final class Due {
    private int passed = 0;
    private int failed = 0;

    void is(String call, long got, long want) {
        if (got == want) {
            passed++;
        } else {
            failed++;
            if (failed <= 40) {
                System.out.println(call + " answered " + got + ", due is " + want);
            }
        }
    }

    void yes(String call, boolean got) {
        is(call, got ? 1 : 0, 1);
    }

    void no(String call, boolean got) {
        is(call, got ? 1 : 0, 0);
    }

    int failed() {
        return failed;
    }

    void end() {
        System.out.println(passed + " passed, " + failed + " failed");
        if (failed != 0) {
            System.exit(1);
        }
    }

    /** Lays a text on an empty tape, filled up to whole rows of twenty bytes. */
    static void feed(DepositJudge x, String text) {
        for (int at = 0; at < text.length(); at += 20) {
            x.feed(word(text, at), word(text, at + 4), word(text, at + 8), word(text, at + 12), word(text, at + 16));
        }
    }

    static int law(DepositJudge x, String text) {
        feed(x, text);
        return x.law(text.length());
    }

    static int word(String text, int at) {
        int word = 0;
        for (int k = at; k < at + 4; k++) {
            word = word << 8 | (k < text.length() ? text.charAt(k) & 255 : 'a');
        }
        return word;
    }
}
