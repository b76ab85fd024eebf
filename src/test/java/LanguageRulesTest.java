import java.io.IOException;
import java.lang.reflect.Constructor;
import java.lang.reflect.Field;
import java.lang.reflect.Method;
import java.lang.reflect.Modifier;
import java.nio.file.Files;
import java.nio.file.Path;
import java.util.ArrayList;
import java.util.Arrays;
import java.util.Collections;
import java.util.List;
import java.util.stream.Collectors;

/** The class breaks no rule of LANGUAGE.md; and what breaks one is seen. */
public final class LanguageRulesTest {
    private static final Due due = new Due();
    /** A class inside, and a call that may answer none of it. */
    private static final String OWN = "private static final class In { int k = 0; } private final In in = new In();"
            + " private In g() { return in.k > 0 ? in : null; } ";

    public static void main(String[] args) throws IOException {
        String source = Files.readString(Path.of("src/main/java/DepositJudge.java"));
        for (String broken : LanguageRules.broken(source)) {
            due.yes("rule " + broken, false);
        }
        due.no("texts hold signs 1 to 127", source.chars().anyMatch(c -> c > 127 || c < 10));
        face();
        goodOnes();
        badLooks();
        badMembers();
        badStatements();
        badMakings();
        badDepths();
        due.end();
    }

    /** The document's face, line by line, and nothing beside it. */
    private static void face() throws IOException {
        Path path = Path.of(System.getProperty("shared", "../shared"), "DOC.md");
        if (!Files.exists(path)) {
            System.out.println("there is no " + path + " to look the face up in");
            return;
        }
        String document = Files.readString(path);
        String block = document.substring(document.indexOf("```java") + 7, document.indexOf("```", document.indexOf("```java") + 7));
        List<String> want = Arrays.stream(block.split("\n")).map(String::trim).filter(line -> line.endsWith(";"))
                .map(line -> line.replaceAll(" = .*|;", "").replaceAll("(int|boolean) \\w+(?=[,)])", "$1"))
                .sorted().collect(Collectors.toList());
        List<String> got = new ArrayList<>();
        for (Method m : DepositJudge.class.getDeclaredMethods()) {
            if (!Modifier.isPrivate(m.getModifiers())) {
                got.add(Modifier.toString(m.getModifiers()) + " " + m.getReturnType() + " " + m.getName() + types(m.getParameterTypes()));
            }
        }
        for (Constructor<?> c : DepositJudge.class.getDeclaredConstructors()) {
            got.add(Modifier.toString(c.getModifiers()) + " DepositJudge" + types(c.getParameterTypes()));
        }
        for (Field f : DepositJudge.class.getDeclaredFields()) {
            if (!Modifier.isPrivate(f.getModifiers())) {
                got.add(Modifier.toString(f.getModifiers()) + " " + f.getType() + " " + f.getName());
            }
        }
        Collections.sort(got);
        due.is("1 the face has 35 lines", want.size(), 35);
        due.yes("1 the face is " + got + ", due is " + want, got.equals(want));
    }

    private static String types(Class<?>[] types) {
        return Arrays.stream(types).map(Class::getName).collect(Collectors.joining(", ", "(", ")"));
    }

    private static void rules(String body, Integer... want) {
        String source = "public final class DepositJudge {\n" + body + "\n}\n";
        List<String> broken = LanguageRules.broken(source);
        List<Integer> numbers = broken.stream().map(b -> Integer.parseInt(b.substring(0, b.indexOf(':')))).distinct()
                .sorted().collect(Collectors.toList());
        due.yes(body + " breaks " + broken + ", due is " + Arrays.toString(want), numbers.equals(Arrays.asList(want)));
    }

    private static void goodOnes() {
        rules("public static final int NONE = -1; private final int[] a = new int[3]; public int f() { return a.length; }");
        rules("private static int f(int a, int b) { return b == 0 ? 0 : a / b; }");
        rules("private static int f(int n, int depth) { return n > 9 ? 0 : f(n + 1, depth + 1); }");
        rules("private static int f(int n) { int s = 0; for (int k = 0; k < n && k < 9; k++) { s += k; } return s; }");
        rules("private static final class In { final int[] a = new int[3]; } private final In in = new In();");
        rules("private final int[] a = new int[3]; public int f(int k) { return k < 0 || k > 2 ? 0 : a[k]; }");
        rules("private final int[] a = new int[3]; public int f(int k) { return in(k) ? a[k] : 0; }"
                + " private static boolean in(int k) { return k == 1; }");
        rules(OWN + "public int f() { In i = g(); return i == null ? 0 : i.k; }");
        rules("private static int f(String s) { return Math.max(s.length(), s.indexOf('a')); }");
    }

    private static void badLooks() {
        rules("private final int[] a = new int[3]; public int f(int k) { return a[k]; }", 7);
        rules("private final int[] a = new int[3]; public int f(int k, int n) { return n > 3 ? a[n - 4 + k] : 0; }", 7);
        rules("private final int[] a = new int[3]; public int f(int k) { int b = a[k]; return k < 3 ? b : 0; }", 7);
        rules(OWN + "public int f() { In i = g(); return i.k; }", 7);
        rules(OWN + "public int f() { return g().k; }", 7);
        rules(OWN + "public boolean f() { In i = g(); return i != null && i == in; }", 6);
        rules("private static final class In { final In me = this; int k = 0; }", 12);
        rules("private static final class In { In me; In() { me = this; } }", 12);
    }

    private static void badMembers() {
        rules("public int g = 1;", 1);
        rules("int g = 1;", 1);
        rules("void f() { }", 1);
        rules("protected void f() { }", 1);
        rules("public void f() { } private void f(int a) { }", 1);
        rules("public static final class In { }", 1);
        rules("private final class In { }", 2);
        rules("private static final interface In { }\nprivate static void f() { class Local { } }", 2);
        rules("private static int count = 0;", 5);
        rules("private static final int[] A = new int[3];", 5);
        rules("private static final Object A = null;", 3, 5);
        rules("private static final int A; static { A = 1; }", 5);
        rules("private void f(int a, int b, int c, int d, int e, int g, int h, int i) { }", 11);
        rules("private final int a0 = 0" + numbered(", a% = 0", 20) + ";", 11);
        rules(numbered("private static final class In% { }", 12), 11);
        rules("private void f() {" + "\n".repeat(60) + "}", 11);
        rules("public String toString() { return null; }", 6);
        rules("private synchronized void f() { }", 6);
    }

    private static String numbered(String text, int many) {
        StringBuilder all = new StringBuilder();
        for (int k = 1; k <= many; k++) {
            all.append(text.replace("%", "" + k)).append('\n');
        }
        return all.toString();
    }

    private static void badStatements() {
        rules("private void f() { throw new IllegalStateException(); }", 4, 6, 12);
        rules("private void f() { try { f(); } finally { } }", 6, 8);
        rules("private void f() { assert 1 == 1; }", 6);
        rules("private void f() { synchronized (this) { } }", 6);
        rules("private void f() { while (true) { } }", 9);
        rules("private void f(int n) { do { n--; } while (n > 0); }", 9);
        rules("private void f() { for (;;) { } }", 9);
        rules("private void f(int n) { for (int k = 0; n < 9; k++) { } }", 9);
        rules("private void f() { for (int k = 0; k < 9; k--) { } }", 9);
        rules("private void f() { for (int k = 0; k < 9; k++) { k = 0; } }", 9);
        rules("private void f(int n) { for (int k = 0; k < 9 || n > 3; k++) { } }", 9);
        rules("private int f(int a, int b) { return a / b; }", 7);
        rules("private int f(int a, int b) { return a % (b + 1); }", 7);
        rules("private int f(int a, int b) { a /= b; return a; }", 7);
        rules("private String f(String a) { return a + 1; }", 10);
        rules("private boolean f(String a, String b) { return a == b; }", 6);
        rules("private double f() { double a = 1.0; return a; }", 3);
        rules("private int[][][] a = null;", 3);
        rules("private Object a = null;", 3);
        rules("private Runnable a = () -> { };", 2, 3);
        rules("private String a = \"\\u00e9\";", 4);
        rules("private int f() { return Math.addExact(1, 2); }", 4);
        rules("private long f() { return System.nanoTime(); }", 13);
        rules("private double f() { return Math.random(); }", 13);
        rules("private static final class In { } private In f(In a) { return (In) a; }", 6);
    }

    private static void badMakings() {
        rules("private int[] f() { return new int[3]; }", 12);
        rules("private static final class In { } private In f() { return new In(); }", 12);
        rules("public DepositJudge() { f(); } private void f() { }", 12);
        rules("public void home() { for (int k = 0; k < 3; k++) { int[] a = new int[k]; } }", 12);
        rules("private final StringBuilder b = new StringBuilder();", 3, 4);
    }

    private static void badDepths() {
        rules("private void f(int n) { f(n); }", 8);
        rules("private void f(int n) { g(n); } private void g(int n) { f(n); }", 8);
        rules("public void f(int depth) { f(depth); }", 8);
        StringBuilder chain = new StringBuilder("private void f0() { }");
        for (int k = 1; k < 8; k++) {
            chain.append("private void f").append(k).append("() { f").append(k - 1).append("(); }\n");
        }
        rules(chain.toString());
        rules(chain + "private void f8() { f7(); }", 11);
    }
}
