import java.io.IOException;
import java.nio.file.Files;
import java.nio.file.Path;
import java.util.ArrayList;
import java.util.Arrays;
import java.util.List;
import java.util.function.Supplier;
import java.util.regex.Matcher;
import java.util.regex.Pattern;
import java.util.stream.Collectors;
import java.util.stream.Stream;

/** What README.md shows is so: its face, the answers in its runs of calls, its table of tests. */
public final class ReadmeTest {
    private static final String BEGIN = "DepositJudge judge = new DepositJudge();";
    private static final Pattern CALL = Pattern.compile("(judge\\.\\w+\\(.*?\\)); +// (NONE|true|false|-?\\d+)(: .+)?");

    private static final Due due = new Due();

    public static void main(String[] args) throws IOException {
        String readme = Files.readString(Path.of("README.md"));
        int runs = 0;
        for (String block : blocks(readme)) {
            if (block.startsWith(BEGIN)) {
                answers(block);
                runs++;
            }
        }
        due.yes("there are runs of calls", runs > 0);
        everyCall(readme);
        face(readme);
        tests(readme);
        due.end();
    }

    private static List<String> blocks(String text) {
        List<String> blocks = new ArrayList<>();
        Matcher m = Pattern.compile("(?s)```java\n(.*?)```").matcher(text);
        while (m.find()) {
            blocks.add(m.group(1));
        }
        return blocks;
    }

    /** Each line is a call with its answer, or begins the run, or is a comment. */
    private static void answers(String block) {
        List<String> calls = new ArrayList<>();
        List<String> want = new ArrayList<>();
        for (String line : block.split("\n")) {
            Matcher m = CALL.matcher(line);
            if (m.matches()) {
                calls.add(m.group(1));
                want.add(m.group(2).equals("NONE") ? "-1" : m.group(2));
            } else {
                due.yes("no call with its answer: " + line, line.isEmpty() || line.startsWith("// ") || line.equals(BEGIN));
            }
        }
        due.yes("at most 512 calls", calls.size() <= 512);
        List<String> got = run(calls);
        due.is("answers", got.size(), calls.size());
        for (int k = 0; k < got.size(); k++) {
            due.yes(calls.get(k) + " answered " + got.get(k) + ", README.md says " + want.get(k), got.get(k).equals(want.get(k)));
        }
    }

    /** Lets the compiler read the calls as they stand, and answers what they answer. */
    private static List<String> run(List<String> calls) {
        StringBuilder source = new StringBuilder("import java.util.*;\npublic final class ReadmeRun "
                + "implements java.util.function.Supplier<List<String>> {\npublic List<String> get() {\n"
                + "List<String> got = new ArrayList<>();\n" + BEGIN + "\n");
        for (String call : calls) {
            source.append("got.add(String.valueOf(").append(call).append("));\n");
        }
        source.append("return got;\n}\n}\n");
        Class<?> run = Compiled.of("ReadmeRun", source.toString());
        due.yes("the calls are Java", run != null);
        try {
            Object made = run == null ? (Supplier<?>) List::of : run.getConstructor().newInstance();
            return ((List<?>) ((Supplier<?>) made).get()).stream().map(String::valueOf).collect(Collectors.toList());
        } catch (ReflectiveOperationException e) {
            due.yes("the run threw " + e, false);
            return List.of();
        }
    }

    private static String faceBlock(String text) {
        return blocks(text).stream().filter(block -> block.startsWith("public final class")).findFirst().orElse("");
    }

    private static List<String> lines(String face) {
        return Arrays.stream(face.split("\n")).map(line -> line.replaceAll(" *// .*", "")).collect(Collectors.toList());
    }

    private static void face(String readme) throws IOException {
        Path path = Path.of(System.getProperty("shared", "../shared"), "DOC.md");
        if (!Files.exists(path)) {
            System.out.println("there is no " + path + " to look the face up in");
            return;
        }
        List<String> got = lines(faceBlock(readme));
        List<String> want = lines(faceBlock(Files.readString(path)));
        due.is("the face has 37 lines", want.size(), 37);
        due.yes("the face is " + got + ", due is " + want, got.equals(want));
    }

    private static void everyCall(String readme) {
        Matcher m = Pattern.compile("public (?:int|boolean) (\\w+)\\(").matcher(faceBlock(readme));
        String runs = blocks(readme).stream().filter(block -> block.startsWith(BEGIN)).collect(Collectors.joining());
        int named = 0;
        while (m.find()) {
            named++;
            due.yes(m.group(1) + " is shown", runs.contains("judge." + m.group(1) + "("));
        }
        due.is("calls", named, 33);
    }

    private static void tests(String readme) throws IOException {
        due.yes("how they are run", readme.contains("`.ci/run`"));
        List<String> there;
        try (Stream<Path> files = Files.list(Path.of("src/test/java"))) {
            there = files.map(file -> file.getFileName().toString()).filter(name -> name.endsWith("Test.java"))
                    .map(name -> name.replace(".java", "")).sorted().collect(Collectors.toList());
        }
        List<String> named = Arrays.stream(readme.split("\n")).filter(line -> line.matches("\\| \\w+Test \\|.*"))
                .map(line -> line.split(" ")[1]).sorted().collect(Collectors.toList());
        due.yes("the table names " + named + ", there are " + there, named.equals(there));
    }
}
