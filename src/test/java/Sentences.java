import java.io.IOException;
import java.nio.file.Files;
import java.nio.file.Path;
import java.util.ArrayList;
import java.util.List;
import java.util.function.IntPredicate;

/** Runs one test for each sentence of the document, under that sentence's own words, and tells which words have none. */
final class Sentences {
    private static final Path DOCUMENT = Path.of(System.getProperty("shared", "../shared"), "DOC.md");
    private static final String HEADINGS = "# DepositJudge|## What it is|## The public face|## Terms"
            + "|## Promise \\d+: (A new object|\\w+)|## Not promised";

    private final Due due = new Due();
    /** Empty where the document can't be read: then the tests run, but their words are not looked up. */
    private final String document;
    private final boolean[] quoted;
    private String now = "";
    private int asked = 0;
    private int tests = 0;
    private final List<String> failedOnes = new ArrayList<>();

    Sentences() throws IOException {
        document = Files.exists(DOCUMENT) ? Files.readString(DOCUMENT).replaceAll("\\s+", " ") : "";
        quoted = new boolean[document.length()];
    }

    void term(String words, Runnable test) {
        section("Terms", words, test);
    }

    void promise(int number, String words, Runnable test) {
        section("Promise " + number + ":", words, test);
    }

    /** A sentence that stands under a heading that begins so. */
    void section(String heading, String words, Runnable test) {
        int from = document.indexOf("## " + heading);
        int next = document.indexOf(" ## ", from);
        run(words, from, next < 0 ? document.length() : next, test);
    }

    private void run(String words, int from, int to, Runnable test) {
        now = words;
        asked = 0;
        tests++;
        if (!document.isEmpty()) {
            quote(words, from, to);
        }
        int before = asked;
        int failed = due.failed();
        try {
            test.run();
        } catch (RuntimeException e) {
            yes("a call threw " + e, false);
        }
        yes("it was tested", asked > before);
        if (due.failed() > failed) {
            failedOnes.add(words);
        }
    }

    private void quote(String words, int from, int to) {
        int at = document.indexOf(words, Math.max(0, from));
        yes("the document says so", from >= 0 && at >= 0 && at + words.length() <= to);
        for (int k = 0; at >= 0 && k < words.length(); k++) {
            quoted[at + k] = true;
        }
    }

    void is(String call, long got, long want) {
        asked++;
        due.is("\"" + now + "\": " + call, got, want);
    }

    void yes(String call, boolean got) {
        is(call, got ? 1 : 0, 1);
    }

    void no(String call, boolean got) {
        is(call, got ? 1 : 0, 0);
    }

    /** What is taken from least to most, and nothing else. */
    void range(String call, int least, int most, IntPredicate taken) {
        yes(call + " of " + least, taken.test(least));
        yes(call + " of " + most, taken.test(most));
        no(call + " of " + (least - 1), taken.test(least - 1));
        no(call + " of " + (most + 1), taken.test(most + 1));
        no(call + " of the least int", taken.test(Integer.MIN_VALUE));
        no(call + " of the greatest int", taken.test(Integer.MAX_VALUE));
    }

    void end() {
        if (document.isEmpty()) {
            System.out.println("there is no " + DOCUMENT + " to look words up in");
        } else {
            unquoted();
        }
        for (String words : failedOnes) {
            System.out.println("does not hold: " + words);
        }
        System.out.println(tests + " sentences");
        due.end();
    }

    /** Headings, signatures and marks need no test; all other words do. */
    private void unquoted() {
        StringBuilder left = new StringBuilder();
        for (int k = 0; k < document.length(); k++) {
            left.append(quoted[k] ? '~' : document.charAt(k));
        }
        String bare = left.toString().replaceAll(HEADINGS, "~").replaceAll("```(text|java)?|==== \\d\\.", "~")
                .replaceAll("`[^`]*\\([^`]*\\)`:", "~");
        for (String words : bare.split("~+")) {
            due.no("no test quotes \"" + words.trim() + "\"", words.matches(".*[A-Za-z0-9].*"));
        }
    }
}
