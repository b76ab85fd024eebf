import java.lang.reflect.Method;
import java.lang.reflect.Modifier;
import java.util.ArrayList;
import java.util.Arrays;
import java.util.Comparator;
import java.util.List;
import java.util.Random;

/** No call may throw, for any arguments in any state; and no run may ask for much room. */
public final class NeverFailsTest {
    private static final int[] EDGES = {Integer.MIN_VALUE, Integer.MIN_VALUE + 1, -1000001, -65536, -1000, -2, -1, 0, 1, 2,
        3, 4, 5, 6, 7, 8, 9, 10, 11, 12, 13, 14, 19, 20, 25, 29, 30, 31, 40, 59, 60, 99, 100, 119, 199, 200, 201, 220, 360,
        361, 998, 999, 1000, 9999, 10000, 65535, 65536, 99999, 100000, 999999, 1000000, Integer.MAX_VALUE - 1,
        Integer.MAX_VALUE};

    private static final Due due = new Due();

    public static void main(String[] args) {
        anyArguments();
        anyState();
        room();
        due.end();
    }

    private static List<Method> calls() {
        List<Method> calls = new ArrayList<>();
        for (Method m : DepositJudge.class.getDeclaredMethods()) {
            if (Modifier.isPublic(m.getModifiers())) {
                calls.add(m);
            }
        }
        calls.sort(Comparator.comparing(Method::getName));
        due.is("the face", calls.size(), 33);
        return calls;
    }

    private static void anyArguments() {
        List<Method> calls = calls();
        for (int run = 0; run < 300; run++) {
            Random random = new Random(run);
            DepositJudge x = new DepositJudge();
            for (int k = 0; k < 512; k++) {
                Method call = calls.get(random.nextInt(calls.size()));
                Object[] given = new Object[call.getParameterCount()];
                for (int p = 0; p < given.length; p++) {
                    boolean small = random.nextInt(3) != 0;
                    given[p] = call.getParameterTypes()[p] == boolean.class ? (Object) random.nextBoolean()
                            : (Object) (small ? random.nextInt(4) : EDGES[random.nextInt(EDGES.length)]);
                }
                ends(x, call, given);
            }
        }
    }

    /** Far beyond 512 calls, with laws that are whole, so that much is full and much is asked. */
    private static void anyState() {
        List<Method> calls = calls();
        for (int run = 0; run < 40; run++) {
            Random random = new Random(1000 + run);
            DepositJudge x = new DepositJudge();
            for (int k = 0; k < 3000; k++) {
                if (random.nextInt(20) == 0) {
                    String text = new RandomLaw(random).text();
                    x.law(1);
                    Due.feed(x, text);
                    x.law(text.length());
                }
                Method call = calls.get(random.nextInt(calls.size()));
                Object[] given = new Object[call.getParameterCount()];
                for (int p = 0; p < given.length; p++) {
                    int value = random.nextInt(30) == 0 ? EDGES[random.nextInt(EDGES.length)] : random.nextInt(10);
                    given[p] = call.getParameterTypes()[p] == boolean.class ? (Object) random.nextBoolean() : (Object) value;
                }
                ends(x, call, given);
            }
        }
    }

    private static void ends(DepositJudge x, Method call, Object[] given) {
        String name = call.getName() + " " + Arrays.toString(given);
        try {
            call.invoke(x, given);
            due.yes(name, true);
        } catch (ReflectiveOperationException e) {
            due.yes(name + " threw " + e.getCause(), false);
        }
    }

    /** The dearest calls, 512 of them on one object, must not make objects of their own. */
    private static void room() {
        com.sun.management.ThreadMXBean threads =
                (com.sun.management.ThreadMXBean) java.lang.management.ManagementFactory.getThreadMXBean();
        dearest();
        long before = threads.getCurrentThreadAllocatedBytes();
        dearest();
        long bytes = threads.getCurrentThreadAllocatedBytes() - before;
        due.yes("a run of 512 calls asks for " + bytes + " bytes", bytes < 200000);
    }

    private static void dearest() {
        DepositJudge x = new DepositJudge();
        Due.law(x, "f1(k=1&(r=2|!s=3));d5(c=2);p50(v>1&a<m*3);b(n=2&g=0&c=3);t3(m>n|m/n=2)");
        x.price(0, 0, 5000);
        for (int h = 0; h < 2; h++) {
            x.home(0, 4, 9999, 0, 12, false);
            for (int i = 0; i < 20; i++) {
                x.first(h, 0, 0, 1 + i % 9, 0);
                x.last(h, 0, 0, 1 + i % 7);
            }
        }
        for (int c = 0; c < 30; c++) {
            x.claim(c % 2, c / 2, c % 10, c % 8, 0);
            x.answer(c, 5, false);
        }
        for (int k = 0; k < 60; k++) {
            x.judged(0, 100, 10);
            x.byKind(0, 100);
            x.like(0, 0);
            x.keep();
            x.undo();
        }
    }
}
