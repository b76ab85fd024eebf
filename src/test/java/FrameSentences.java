import java.lang.reflect.Constructor;
import java.lang.reflect.Field;
import java.lang.reflect.Method;
import java.lang.reflect.Modifier;
import java.io.IOException;
import java.nio.file.Files;
import java.nio.file.Path;
import java.util.ArrayList;
import java.util.List;
import java.util.Random;
import java.util.function.Consumer;
import java.util.stream.Collectors;
import java.util.stream.IntStream;

/** What stands ahead of the terms and behind the promises: what the class is, its face, and what is not promised. */
final class FrameSentences {
    private static final int MOST_CALLS = 512;
    private static final int NOTHING_SUCH = -1;

    private final Sentences doc;

    FrameSentences(Sentences doc) {
        this.doc = doc;
    }

    void run() throws IOException {
        judging();
        beside();
        used();
        face();
        notPromised();
    }

    // ---- what it is

    private void judging() {
        is("Deposits judged:", this::depositsJudged);
        is("homes left,", this::homesLeft);
        is("lists of rooms at both ends joined thing by thing,", this::listsJoined);
        is("what wears by itself,", this::wearsByItself);
        is("what a thing is worth at its age,", this::worthAtAge);
        is("claims with causes and evidence,", this::causesAndEvidence);
        is("who must prove,", this::whoMustProve);
        is("how silence counts,", this::silence);
        is("what is agreed in part,", this::agreedInPart);
        is("all by a law as a text;", this::lawAsText);
        is("awards that never better a thing,", this::neverBetter);
        is("what goes to the owner and back to each tenant,", this::ownerAndTenants);
        is("penalties;", this::penalties);
    }

    private void beside() {
        is("offers shut until both lie there,", this::offersShut);
        is("judges drawn without kin,", this::drawnWithoutKin);
        is("doubles that tell their spread,", this::doublesTell);
        is("like cases,", this::likeCases);
        is("pictures dated by facts,", this::picturesDated);
        is("each thing's years led,", this::yearsLed);
        is("counts by kinds;", this::countsByKinds);
        is("kept and undone.", this::keptAndUndone);
    }

    private void is(String words, Runnable test) {
        doc.section("What it is", words, test);
    }

    private static void anyCases(int many, Consumer<DepositJudge> asked) {
        Random random = new Random(8);
        for (int turn = 0; turn < many; turn++) {
            asked.accept(new AnyCase(random).judge);
        }
    }

    /** Each penny of a deposit goes to one of them. */
    private void depositsJudged() {
        int[] deposits = {0, 1, 999, 999999};
        for (int owed : deposits) {
            for (int deposit : deposits) {
                DepositJudge x = new DepositJudge();
                x.home(0, 1, deposit, 0, 0, true);
                x.owes(0, 0, owed);
                doc.is("to the owner", x.judged(0, 0, 0), Math.min(deposit, owed));
                doc.is("back", x.judged(0, 0, 1), deposit - Math.min(deposit, owed));
            }
        }
    }

    private void homesLeft() {
        DepositJudge x = new DepositJudge();
        for (int h = 0; h < 6; h++) {
            doc.is("home", x.home(0, 1, 0, 3, 3 + h, true), h);
            doc.is("homes", x.count(0), h + 1);
        }
    }

    private void listsJoined() {
        anyCases(40, x -> {
            for (int h = 0; h < x.count(0); h++) {
                int joined = 0;
                int fresh = 0;
                for (int i = 0; i < x.count(10 + h); i++) {
                    joined += x.thing(h, i, 0) >= 0 ? 1 : 0;
                }
                for (int j = 0; j < x.count(20 + h); j++) {
                    fresh += x.isNew(h, j);
                }
                doc.is("of the last list each is joined or new", joined + fresh, x.count(20 + h));
            }
        });
    }

    private void wearsByItself() {
        DepositJudge x = Cases.joined(new int[] {7}, 5);
        x.price(2, 0, 700);
        doc.is("without fair wear", x.thing(0, 0, 4), 200);
        Due.law(x, "f1(k=2)");
        doc.is("one by itself", x.thing(0, 0, 4), 100);
        Due.law(x, "f2(k=2)");
        doc.is("all by itself", x.thing(0, 0, 4), 0);
        Due.law(x, "f3(k=2)");
        doc.is("more than by itself", x.thing(0, 0, 4), 0);
    }

    private void worthAtAge() {
        anyCases(40, x -> {
            for (int i = 0; i < x.count(10); i++) {
                for (int years = 1; years <= 30; years++) {
                    doc.yes("worth falls with age", x.led(0, i, years) <= x.led(0, i, years - 1));
                }
                doc.yes("worth aged", x.thing(0, i, 3) <= x.led(0, i, 0));
            }
        });
    }

    private void causesAndEvidence() {
        for (int cause = 0; cause < 10; cause++) {
            for (int evidence = 0; evidence < 8; evidence++) {
                DepositJudge x = Cases.claimed(cause, evidence);
                Due.law(x, "b(1=1);p10*c+v(1=1)");
                x.answer(0, 10, false);
                doc.is("cause and evidence", x.award(0, 10, 0), 10 * (10 * cause + evidence));
            }
        }
    }

    private void whoMustProve() {
        DepositJudge x = Cases.claimed(4, 0);
        x.answer(0, 10, false);
        doc.is("the owner, who has nothing", x.award(0, 10, 1), 8);
        Due.law(x, "b(c=4)");
        doc.is("the tenants, who have nothing", x.award(0, 10, 1), 5);
        Due.law(x, "b(c=5)");
        doc.is("the owner again", x.award(0, 10, 1), 8);
    }

    private void silence() {
        DepositJudge x = Cases.claimed(4, 0);
        doc.is("999 days", x.award(0, 1009, 1), 4);
        doc.is("more", x.award(0, 1010, 1), 3);
        Due.law(x, "d7(c=4)");
        doc.is("7 days", x.award(0, 17, 1), 4);
        doc.is("more", x.award(0, 18, 1), 3);
    }

    private void agreedInPart() {
        DepositJudge x = Cases.claimed(4, 0);
        for (int agreed : new int[] {0, 1, 400, 999}) {
            x.agree(0, agreed);
            doc.is("in part", x.award(0, 10, 0), agreed);
            doc.is("in part", x.award(0, 10, 1), 4);
        }
        x.agree(0, 1000);
        doc.is("all of it", x.award(0, 10, 1), 2);
    }

    private void lawAsText() {
        String text = "f1(k=2)";
        DepositJudge x = Cases.joined(new int[] {7}, 5);
        x.feed(0x6631286b, 0x3d322900, 0, 0, 0);
        doc.is("a text in bytes", x.law(text.length()), 1);
        doc.is("as it says", x.thing(0, 0, 2), 1);
        x.feed(0x66332831, 0x3d312900, 0, 0, 0);
        doc.is("another one", x.law(text.length()), 1);
        doc.is("as it says", x.thing(0, 0, 2), 3);
    }

    /** What is awarded is never more than what was lost, nor that more than the thing was worth. */
    private void neverBetter() {
        anyCases(150, x -> {
            for (int h = 0; h < x.count(0); h++) {
                for (int i = 0; i < x.count(10 + h); i++) {
                    doc.yes("lost", x.thing(h, i, 4) <= x.thing(h, i, 3));
                    boolean worse = x.thing(h, i, 1) == 1 || x.thing(h, i, 1) == 2;
                    doc.yes("nothing is lost but by what is worse or gone", worse || x.thing(h, i, 4) == 0);
                }
            }
        });
        neverMoreThanLost();
        for (int agreed : new int[] {1000, 1001, 999999}) {
            DepositJudge x = Cases.claimed(0, 7);
            x.agree(0, agreed);
            doc.is("more agreed than lost", x.award(0, 10, 0), 1000);
            x.answer(0, 10, false);
            doc.is("more agreed than lost, answered", x.award(0, 10, 0), 1000);
        }
    }

    private void neverMoreThanLost() {
        Random random = new Random(9);
        for (int turn = 0; turn < 150; turn++) {
            AnyCase any = new AnyCase(random);
            for (int c = 0; c < any.judge.count(1); c++) {
                int lost = any.judge.thing(any.judge.count(30 + c), any.things[c], 4);
                for (int day : new int[] {50, 75, 100, 9999}) {
                    doc.yes("awarded is lost", any.judge.award(c, day, 0) <= lost);
                }
            }
        }
    }

    private void ownerAndTenants() {
        anyCases(100, x -> {
            for (int h = 0; h < x.count(0); h++) {
                for (int day : new int[] {0, 30, 9999}) {
                    int together = 0;
                    for (int t = 0; t < 4; t++) {
                        together += Math.max(0, x.judged(h, day, 10 + t));
                    }
                    doc.is("each penny back", together, x.judged(h, day, 1) + x.judged(h, day, 2));
                }
            }
        });
    }

    private void penalties() {
        for (int times = 0; times < 10; times++) {
            DepositJudge x = new DepositJudge();
            x.home(0, 1, 250, 0, 0, false);
            x.home(0, 1, 250, 0, 0, true);
            Due.law(x, "t" + times + "(n=1)");
            doc.is("not kept", x.judged(0, 0, 2), 250 * times);
            doc.is("kept", x.judged(1, 0, 2), 0);
        }
    }

    /** Whatever is offered, nothing can be seen of it while the other one lacks. */
    private void offersShut() {
        for (int pence : new int[] {0, 1, 500, 999999}) {
            for (boolean owner : new boolean[] {true, false}) {
                DepositJudge x = Cases.withHomes(2);
                doc.is("one", x.offer(0, owner, pence), 0);
                doc.is("shut", x.met(0), -2);
                doc.is("shut still", x.met(0), -2);
                doc.is("of another home", x.met(1), -2);
                doc.is("both", x.offer(0, !owner, pence), 1);
                doc.is("open", x.met(0), pence);
            }
        }
    }

    private void drawnWithoutKin() {
        for (int kin = 0; kin < 63; kin++) {
            DepositJudge x = Cases.withHome();
            for (int judge = 0; judge < 6; judge++) {
                x.kin(judge, 0, (kin >> judge & 1) != 0);
            }
            for (int k = 0; k < 60; k++) {
                int drawn = x.draw(0);
                doc.yes("judge " + drawn, drawn >= 0 && drawn < 6 && (kin >> drawn & 1) == 0);
                doc.is("X", x.count(6) % 6, drawn);
            }
        }
    }

    private void doublesTell() {
        DepositJudge x = new DepositJudge();
        doc.is("none yet", x.spread(3, 0), -1000000);
        x.twice(3, 5, 10, 4);
        x.twice(3, 0, 10, 19);
        doc.is("above", x.spread(3, 0), 15);
        doc.is("below", x.spread(3, 1), 2);
        doc.is("leans, above", x.spread(3, 2), -3);
        doc.is("leans, below", x.spread(3, 3), 2);
    }

    private void likeCases() {
        anyCases(60, x -> {
            int homes = x.count(0);
            for (int h = 0; h < homes && homes > 1; h++) {
                int like = x.like(h, 0);
                doc.yes("another one", like != h && like >= 0 && like < homes);
                doc.yes("it is no farther from the first one", x.like(like, 1) <= x.like(h, 1));
            }
        });
    }

    private void picturesDated() {
        DepositJudge x = new DepositJudge();
        x.fact(10, 4, 7);
        x.fact(4, 10, -7);
        doc.is("on a day", x.dated(4, 0), 7);
        doc.is("on a day", x.dated(4, 1), 7);
        x.fact(4, 9, 100);
        doc.is("behind it", x.dated(9, 0), 107);
        doc.is("no end", x.dated(9, 1), -100000);
    }

    private void yearsLed() {
        DepositJudge x = Cases.withHome();
        x.price(0, 0, 1000);
        x.first(0, 0, 0, 1, 0);
        for (int years = 0; years <= 30; years++) {
            doc.is("year " + years, x.led(0, 0, years), Math.max(0, 1000 - 100 * years));
        }
    }

    private void countsByKinds() {
        anyCases(60, x -> {
            for (int day : new int[] {0, 30, 9999}) {
                int byKinds = 0;
                int byClaims = 0;
                int byHomes = 0;
                for (int kind = 0; kind < 8; kind++) {
                    byKinds += x.byKind(kind, day);
                }
                for (int c = 0; c < x.count(1); c++) {
                    byClaims += Math.max(0, x.award(c, day, 0));
                }
                for (int h = 0; h < x.count(0); h++) {
                    byHomes += x.judged(h, day, 3);
                }
                doc.is("by kinds as by claims", byKinds, byClaims);
                doc.is("by homes as by claims", byHomes, byClaims);
            }
        });
    }

    private void keptAndUndone() {
        DepositJudge x = Cases.court();
        doc.no("nothing kept", x.undo());
        x.claim(0, 0, 0, 0, 0);
        doc.is("kept", x.keep(), 1);
        x.claim(0, 1, 0, 0, 0);
        doc.yes("undone", x.undo());
        doc.is("claims", x.count(1), 1);
        doc.is("the thing may be claimed again", x.claim(0, 1, 0, 0, 0), 1);
    }

    // ---- 512 calls

    private void used() {
        is("An object is used for at most 512 calls after it has been made;", this::manyCalls);
        is("what later calls answer is free.", this::laterCalls);
    }

    private void manyCalls() {
        DepositJudge x = new DepositJudge();
        for (int k = 1; k < MOST_CALLS; k++) {
            x.seed(k);
        }
        doc.is("the 512th call", x.count(6), MOST_CALLS - 1);
        laws();
        draws();
        keeps();
        askedOften();
    }

    private void laws() {
        DepositJudge x = new DepositJudge();
        for (int k = 0; k < MOST_CALLS / 2; k++) {
            doc.is("feed", x.feed(0x62286b3d, 0x30290000, 0, 0, 0), 20);
            doc.is("law", x.law(6), 1);
        }
    }

    private void draws() {
        DepositJudge x = Cases.withHome();
        int due = 1;
        for (int k = 2; k < MOST_CALLS; k++) {
            due = (25173 * due + 13849) % 65536;
            doc.is("draw", x.draw(0), due % 6);
        }
        doc.is("the 512th call", x.count(6), due);
    }

    private void keeps() {
        DepositJudge x = Cases.claimed(0, 0);
        for (int k = 0; k < 120; k++) {
            doc.is("keep", x.keep(), 1);
            doc.is("claim", x.claim(0, 1, 0, 0, 0), 1);
            doc.yes("agree", x.agree(0, k));
            doc.yes("undo", x.undo());
        }
        doc.is("agreed at first", x.award(0, 10, 0), 0);
        doc.is("claims", x.count(1), 1);
    }

    private void askedOften() {
        anyCases(3, x -> {
            List<Integer> once = asked(x);
            for (int turn = 0; turn < 10; turn++) {
                doc.yes("the same answers", asked(x).equals(once));
            }
        });
    }

    private static List<Integer> asked(DepositJudge x) {
        List<Integer> all = new ArrayList<>();
        for (int c = 0; c < 5; c++) {
            all.add(x.award(c, 60, 0));
            all.add(x.judged(c, 60, 10));
            all.add(x.like(c, 0));
            all.add(x.byKind(c, 60));
            all.add(x.thing(0, c, 4));
            all.add(x.count(c));
        }
        return all;
    }

    /** What they answer is free, but no call may throw. */
    private void laterCalls() {
        anyCases(2, x -> {
            for (int k = 0; k < 4 * MOST_CALLS; k++) {
                x.home(0, 1, 0, 0, 0, true);
                x.first(k % 7, 0, 0, 1, 0);
                x.last(k % 7, 0, 0, 1);
                x.claim(k % 7, k % 21, 0, 0, 0);
                x.twice(k % 6, (k + 1) % 6, 0, 1);
                x.fact(k % 11, (k + 1) % 11, k % 50);
                x.feed(k, k, k, k, k);
                asked(x);
            }
            doc.yes("they end", true);
        });
    }

    // ---- the face

    private void face() throws IOException {
        String source = Files.readString(Path.of("src/main/java/DepositJudge.java"));
        doc.section("The public face", "public final class DepositJudge {", this::noOtherMember);
        doc.section("The public face", "public static final int NONE = -1;", () -> constant(source));
        doc.section("The public face", "public DepositJudge();", this::constructor);
        for (String line : FACE) {
            doc.section("The public face", line, () -> member(line, source));
        }
    }

    private static final String[] FACE = {
        "public boolean life(int kind, int months);",
        "public boolean price(int kind, int region, int pence);",
        "public int home(int region, int tenants, int deposit, int from, int to, boolean kept);",
        "public boolean part(int h, int tenant, int n);",
        "public boolean owes(int h, int what, int pence);",
        "public int first(int h, int room, int kind, int state, int age);",
        "public int last(int h, int room, int kind, int state);",
        "public int feed(int a, int b, int c, int d, int e);",
        "public int law(int n);",
        "public int thing(int h, int i, int what);",
        "public int isNew(int h, int j);",
        "public int led(int h, int i, int years);",
        "public int claim(int h, int i, int cause, int evidence, int day);",
        "public boolean agree(int claim, int pence);",
        "public boolean answer(int claim, int day, boolean proof);",
        "public int award(int claim, int day, int what);",
        "public int judged(int h, int day, int what);",
        "public int offer(int h, boolean owner, int pence);",
        "public int met(int h);",
        "public boolean kin(int judge, int h, boolean is);",
        "public boolean seed(int x);",
        "public int draw(int h);",
        "public int twice(int a, int b, int byA, int byB);",
        "public int spread(int judge, int what);",
        "public int like(int h, int what);",
        "public int fact(int a, int b, int days);",
        "public int dated(int picture, int what);",
        "public int wrong(int what);",
        "public int byKind(int kind, int day);",
        "public int keep();",
        "public boolean undo();",
        "public int check(int h, int day, int n);",
        "public int count(int what);",
    };

    private void noOtherMember() {
        doc.is("public and final", DepositJudge.class.getModifiers(), Modifier.PUBLIC | Modifier.FINAL);
        doc.yes("under no other class", DepositJudge.class.getSuperclass() == Object.class);
        doc.is("no interfaces", DepositJudge.class.getInterfaces().length, 0);
        doc.is("no types to be filled in", DepositJudge.class.getTypeParameters().length, 0);
        doc.yes("no package", DepositJudge.class.getPackageName().isEmpty());
        long methods = IntStream.range(0, DepositJudge.class.getDeclaredMethods().length)
                .filter(k -> !Modifier.isPrivate(DepositJudge.class.getDeclaredMethods()[k].getModifiers())).count();
        doc.is("methods that others see", methods, FACE.length);
        long fields = IntStream.range(0, DepositJudge.class.getDeclaredFields().length)
                .filter(k -> !Modifier.isPrivate(DepositJudge.class.getDeclaredFields()[k].getModifiers())).count();
        doc.is("fields that others see", fields, 1);
        doc.is("classes that others see", DepositJudge.class.getClasses().length, 0);
    }

    private void constant(String source) {
        try {
            Field none = DepositJudge.class.getDeclaredField("NONE");
            doc.is("modifiers", none.getModifiers(), Modifier.PUBLIC | Modifier.STATIC | Modifier.FINAL);
            doc.yes("an int", none.getType() == int.class);
            // Read by its name, as the compiler writes the constant into what uses it.
            doc.is("NONE", none.getInt(null), NOTHING_SUCH);
        } catch (ReflectiveOperationException e) {
            doc.yes("there is no " + e, false);
        }
        doc.yes("its line", source.contains("\n    public static final int NONE = -1;\n"));
    }

    private void constructor() {
        Constructor<?>[] all = DepositJudge.class.getDeclaredConstructors();
        doc.is("one", all.length, 1);
        doc.is("public", all[0].getModifiers(), Modifier.PUBLIC);
        doc.is("of nothing", all[0].getParameterCount(), 0);
        doc.is("throws nothing", all[0].getExceptionTypes().length, 0);
    }

    private void member(String line, String source) {
        String name = line.replaceAll("\\(.*", "").replaceAll(".* ", "");
        List<Method> found = new ArrayList<>();
        for (Method m : DepositJudge.class.getDeclaredMethods()) {
            if (m.getName().equals(name)) {
                found.add(m);
            }
        }
        doc.is("one of that name", found.size(), 1);
        for (Method m : found) {
            doc.is("public alone", m.getModifiers(), Modifier.PUBLIC);
            doc.is("throws nothing", m.getExceptionTypes().length, 0);
            String types = IntStream.range(0, m.getParameterCount()).mapToObj(p -> m.getParameterTypes()[p].getName())
                    .collect(Collectors.joining(", ", "(", ");"));
            doc.yes("as it stands there", line.replaceAll("(int|boolean) \\w+(?=[,)])", "$1")
                    .equals("public " + m.getReturnType().getName() + " " + name + types));
        }
        doc.yes("with the same names", source.contains("\n    " + line.replace(";", " {") + "\n"));
    }

    // ---- not promised

    private void notPromised() {
        doc.section("Not promised", "How the state is held inside the object is free, as are the speed of each call, the text of "
                + "toString and the behaviour of equals and hashCode.", this::heldInside);
        doc.section("Not promised", "Use of one object from several threads at once is not promised to be safe.", this::threads);
        doc.section("Not promised", "Nothing is promised beyond the answers and state changes described above,",
                () -> new Changes(doc).run());
        doc.section("Not promised", "and nothing about an object after its 512th call.", this::laterCalls);
    }

    /** Nobody sees how it is held, and no object holds anything of another one. */
    private void heldInside() {
        for (Field f : DepositJudge.class.getDeclaredFields()) {
            doc.yes(f + " is shut or a constant", Modifier.isPrivate(f.getModifiers()) || Modifier.isStatic(f.getModifiers()));
            doc.yes(f + " is of the object or a number", !Modifier.isStatic(f.getModifiers()) || f.getType() == int.class);
        }
        for (int k = 0; k < 20; k++) {
            DepositJudge x = new AnyCase(new Random(k)).judge;
            List<Integer> before = asked(x);
            DepositJudge y = new AnyCase(new Random(k + 100)).judge;
            asked(y);
            doc.yes("another object changes nothing", asked(x).equals(before));
            doc.yes("the same calls, the same answers", asked(new AnyCase(new Random(k)).judge).equals(before));
        }
    }

    /** One object in each of several threads is another thing: these must answer as ever. */
    private void threads() {
        List<List<Integer>> due = IntStream.range(0, 64).mapToObj(k -> asked(new AnyCase(new Random(k)).judge)).collect(Collectors.toList());
        List<List<Integer>> got = IntStream.range(0, 64).parallel().mapToObj(k -> asked(new AnyCase(new Random(k)).judge))
                .collect(Collectors.toList());
        doc.yes("an object in each thread", got.equals(due));
    }
}
