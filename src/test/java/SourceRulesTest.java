import java.io.IOException;
import java.lang.reflect.Field;
import java.lang.reflect.Member;
import java.lang.reflect.Method;
import java.lang.reflect.Modifier;
import java.nio.file.Files;
import java.nio.file.Path;
import java.util.HashSet;
import java.util.Set;
import java.util.regex.Matcher;
import java.util.regex.Pattern;

/** The rules of LANGUAGE.md that can be seen from the text and the face of the class. */
public final class SourceRulesTest {
    private static final Due due = new Due();

    public static void main(String[] args) throws IOException {
        String source = Files.readString(Path.of("src/main/java/DepositJudge.java"));
        words(source.replaceAll("(?s)/\\*.*?\\*/", "").replaceAll("//.*", ""));
        face();
        sizes(source);
        due.end();
    }

    private static void words(String code) {
        String[] forbidden = {"throw", "try", "catch", "synchronized", "assert", "import", "package", "Object", "->", "::",
            "Exact", "System", "hashCode", "toString", "protected", "volatile", "transient", "native", "float", "double"};
        for (String word : forbidden) {
            Pattern pattern = word.matches("\\w+") ? Pattern.compile("\\b" + word + "\\b|\\w+Exact\\b")
                    : Pattern.compile(Pattern.quote(word));
            due.no("6 '" + word + "' stands in the code", pattern.matcher(code).find());
        }
        due.no("3 a sign beyond 127", code.chars().anyMatch(c -> c > 127));
        due.no("7 a while without a counter", Pattern.compile("\\bwhile\\b").matcher(code).find());
    }

    private static void face() {
        due.yes("1 final", Modifier.isFinal(DepositJudge.class.getModifiers()));
        Set<String> open = new HashSet<>();
        for (Method m : DepositJudge.class.getDeclaredMethods()) {
            seen(m, open);
        }
        for (Field f : DepositJudge.class.getDeclaredFields()) {
            seen(f, open);
        }
        due.is("1 33 methods and NONE", open.size(), 34);
        for (Class<?> inside : DepositJudge.class.getDeclaredClasses()) {
            due.yes("2 " + inside + " is static", Modifier.isStatic(inside.getModifiers()));
            due.yes("2 " + inside + " is private", Modifier.isPrivate(inside.getModifiers()));
            for (Method m : inside.getDeclaredMethods()) {
                due.no("1 " + m + " bears the name of a public one", open.contains(m.getName()));
            }
            fields(inside);
        }
        fields(DepositJudge.class);
        due.yes("11 twelve classes", DepositJudge.class.getDeclaredClasses().length + 1 <= 12);
        for (Method m : DepositJudge.class.getDeclaredMethods()) {
            boolean isPrivate = Modifier.isPrivate(m.getModifiers());
            due.no("1 " + m + " bears the name of a public one", isPrivate && open.contains(m.getName()));
        }
    }

    private static void seen(Member member, Set<String> open) {
        boolean isPublic = Modifier.isPublic(member.getModifiers());
        due.yes("1 " + member + " is public or private", isPublic || Modifier.isPrivate(member.getModifiers()));
        if (isPublic) {
            open.add(member.getName());
        }
    }

    private static void fields(Class<?> c) {
        int many = 0;
        for (Field f : c.getDeclaredFields()) {
            boolean isStatic = Modifier.isStatic(f.getModifiers());
            due.yes("5 " + f + " is final, if static", !isStatic || Modifier.isFinal(f.getModifiers()));
            many += isStatic ? 0 : 1;
        }
        due.yes("11 " + c + " has " + many + " fields", many <= 20);
        for (Method m : c.getDeclaredMethods()) {
            due.yes("11 " + m + " takes seven at most", m.getParameterCount() <= 7);
        }
    }

    private static void sizes(String source) {
        Pattern method = Pattern.compile("(?m)^( {4}| {8})(?!if|for|else|switch)[a-zA-Z][\\w\\[\\] ]*\\([^;={]*\\) \\{$");
        Matcher m = method.matcher(source);
        while (m.find()) {
            int end = source.indexOf("\n" + m.group(1) + "}", m.start());
            long lines = source.substring(m.start(), Math.max(m.start(), end)).lines().count();
            due.yes("11 " + m.group().trim() + " has " + lines + " lines", lines <= 60);
        }
        source.lines().forEach(line -> due.yes("too long: " + line, line.length() <= 125));
    }
}
