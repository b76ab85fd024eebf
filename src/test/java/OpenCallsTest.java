import com.sun.source.tree.CompilationUnitTree;
import com.sun.source.tree.MethodTree;
import com.sun.source.util.JavacTask;
import com.sun.source.util.TreeScanner;
import com.sun.source.util.Trees;
import java.io.IOException;
import java.lang.reflect.Method;
import java.nio.file.Files;
import java.nio.file.Path;
import java.util.ArrayList;
import java.util.HashMap;
import java.util.List;
import java.util.Map;
import java.util.Random;
import javax.tools.ToolProvider;

/** Rule 8: how many calls stand open at once, seen in a copy of the class that tells of each call that it begins. */
public final class OpenCallsTest {
    private static final Due due = new Due();
    private static final StackWalker WALKER = StackWalker.getInstance();
    private static long most = 0;
    private static long begun = 0;

    private final Object judge;
    private final Map<String, Method> face = new HashMap<>();

    private OpenCallsTest(Class<?> copy) throws ReflectiveOperationException {
        judge = copy.getConstructor().newInstance();
        for (Method m : copy.getDeclaredMethods()) {
            face.put(m.getName(), m);
        }
    }

    /** The copy calls this at the beginning of each of its methods. */
    public static void seen() {
        begun++;
        most = Math.max(most, WALKER.walk(all -> all.filter(f -> f.getClassName().startsWith("DepositJudge")).count()));
    }

    public static void main(String[] args) throws IOException, ReflectiveOperationException {
        Class<?> copy = Compiled.of("DepositJudge", telling(Files.readString(Path.of("src/main/java/DepositJudge.java"))));
        due.yes("the copy stands", copy != null);
        if (copy != null) {
            deepLaws(copy);
            anyLaws(copy);
            everyCall(copy);
        }
        System.out.println(most + " calls open at most, " + begun + " seen");
        due.yes("the copy tells", begun > 10000 && most > 8);
        due.yes("open calls stay under 300", most < 300);
        due.yes("some forty levels are plenty", most < 60);
        due.end();
    }

    private static String telling(String source) throws IOException {
        JavacTask task = (JavacTask) ToolProvider.getSystemJavaCompiler()
                .getTask(null, null, null, null, null, List.of(Compiled.source("DepositJudge", source)));
        CompilationUnitTree unit = task.parse().iterator().next();
        List<Integer> begins = new ArrayList<>();
        new TreeScanner<Void, Void>() {
            @Override
            public Void visitMethod(MethodTree tree, Void none) {
                begins.add((int) Trees.instance(task).getSourcePositions().getStartPosition(unit, tree.getBody()) + 1);
                return super.visitMethod(tree, none);
            }
        }.scan(unit, null);
        StringBuilder text = new StringBuilder(source);
        for (int k = begins.size() - 1; k >= 0; k--) {
            text.insert(begins.get(k), " OpenCallsTest.seen();");
        }
        return text.toString();
    }

    private int call(String name, Object... given) throws ReflectiveOperationException {
        Object answer = face.get(name).invoke(judge, given);
        return answer instanceof Boolean ? (Boolean) answer ? 1 : 0 : (Integer) answer;
    }

    private int law(String text) throws ReflectiveOperationException {
        for (int at = 0; at < text.length(); at += 20) {
            call("feed", Due.word(text, at), Due.word(text, at + 4), Due.word(text, at + 8), Due.word(text, at + 12),
                    Due.word(text, at + 16));
        }
        return call("law", text.length());
    }

    /** As many open in one another as may be, and one more, of each sign and mixed. */
    private static void deepLaws(Class<?> copy) throws ReflectiveOperationException {
        OpenCallsTest x = new OpenCallsTest(copy);
        due.is("(", x.law("b" + "(".repeat(6) + "k=0" + ")".repeat(6)), 1);
        due.is("a seventh (", x.law("b" + "(".repeat(7)), -5007);
        due.is("[", x.law("f" + "[".repeat(6) + "1" + "]".repeat(6) + "(k=" + "[".repeat(5) + "0" + "]".repeat(5) + ")"), 1);
        due.is("a seventh [", x.law("f" + "[".repeat(7)), -5007);
        due.is("!", x.law("b(" + "!".repeat(5) + "k=0)"), 1);
        due.is("a seventh !", x.law("b(" + "!".repeat(190)), -5007);
        due.is("mixed", x.law("b(!(!([k]=0)))"), 1);
        due.is("many beside one another", x.law("b(" + "!k=0&".repeat(38) + "k=0)"), 1);
    }

    private static void anyLaws(Class<?> copy) throws ReflectiveOperationException {
        Random random = new Random(4);
        OpenCallsTest x = new OpenCallsTest(copy);
        x.call("home", 0, 1, 100, 0, 5, false);
        x.call("first", 0, 0, 0, 5, 0);
        for (int turn = 0; turn < 200; turn++) {
            String text = new RandomLaw(random).text();
            x.law(text.length() > 200 ? text.substring(0, 200) : text);
            x.call("thing", 0, 0, 2);
            x.call("judged", 0, 0, 2);
            due.yes("so far", most < 300);
        }
    }

    private static void everyCall(Class<?> copy) throws ReflectiveOperationException {
        OpenCallsTest x = new OpenCallsTest(copy);
        for (int h = 0; h < 3; h++) {
            x.call("home", 0, 4, 5000, 0, 5, false);
            x.call("first", h, 0, 0, 5, 0);
            x.call("last", h, 0, 0, 3);
            x.call("price", 0, 0, 4000);
            x.call("claim", h, 0, 1, 3, 0);
            x.call("answer", h, 1, false);
        }
        x.law("f1(k=" + "[".repeat(5) + "9" + "]".repeat(5) + ");p50/7(!(c>0|!v=3));b(c=1&!(v<2));d3(k=0);t2(m>n)");
        Random random = new Random(5);
        for (Method m : x.face.values()) {
            if (m.getDeclaringClass() != copy || (m.getModifiers() & java.lang.reflect.Modifier.PUBLIC) == 0) {
                continue;
            }
            for (int turn = 0; turn < 40; turn++) {
                Object[] given = new Object[m.getParameterCount()];
                for (int p = 0; p < given.length; p++) {
                    given[p] = m.getParameterTypes()[p] == boolean.class ? (Object) random.nextBoolean() : (Object) random.nextInt(5);
                }
                m.invoke(x.judge, given);
            }
            due.yes(m.getName(), most < 300);
        }
    }
}
