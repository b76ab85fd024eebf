import java.lang.reflect.Method;
import java.util.ArrayList;
import java.util.Arrays;
import java.util.List;
import java.util.function.Supplier;
import java.util.function.ToIntFunction;

/**
 * The sentence about refused calls. Two objects with one history are asked all that can be asked; one of them was asked
 * something that is refused before: both must answer alike.
 */
final class RefusalSentences {
    private static final int HOMES = 3;
    private static final int CLAIMS = 4;
    private static final String LAW = "f1(k=0);p50(c=1);d9(c=2);b(c=3);t2(n>1)";
    private static final String NEXT_LAW = "f2(1=1);p[c+v]*10(1=1);t[m+n](1=1)";

    private final Sentences doc;

    RefusalSentences(Sentences doc) {
        this.doc = doc;
    }

    void run() {
        doc.term("A call that is refused (NONE, false) changes nothing", this::refused);
        doc.term("but the tape, where it is told.", this::butTheTape);
    }

    /** Something of everything, and room for more of it. */
    private static DepositJudge some() {
        DepositJudge x = new DepositJudge();
        for (int kind = 0; kind < 3; kind++) {
            x.life(kind, 100 + kind);
            x.price(kind, kind % 2, 5000 + kind);
        }
        x.home(0, 2, 9001, 5, 29, false);
        x.home(1, 4, 777, 0, 0, true);
        x.home(0, 1, 50000, 100, 160, false);
        x.part(0, 1, 3);
        x.owes(0, 1, 17);
        x.owes(2, 2, 5);
        for (int i = 0; i < 4; i++) {
            x.first(0, 0, 0, 9 - i, 10 * i);
            x.first(1, i, 1, 5, 0);
            x.last(0, 0, 0, 3 + i);
            x.last(1, i, 1, 5 - i);
        }
        x.first(2, 9, 2, 9, 40);
        Due.law(x, LAW);
        x.claim(0, 0, 1, 3, 10);
        x.claim(0, 2, 3, 1, 20);
        x.agree(0, 40);
        x.answer(1, 25, true);
        x.offer(0, true, 300);
        x.offer(1, false, 40);
        x.keep();
        x.claim(1, 3, 2, 6, 30);
        x.claim(2, 0, 0, 7, 40);
        x.answer(3, 41, false);
        x.agree(2, 15);
        x.offer(0, false, 500);
        x.kin(2, 0, true);
        x.kin(4, 1, true);
        x.draw(0);
        x.twice(0, 1, 50, 20);
        x.twice(2, 0, 7, 19);
        x.fact(10, 0, 5);
        x.fact(0, 1, 3);
        x.fact(1, 0, 4);
        x.fact(1, 10, -30);
        Due.feed(x, NEXT_LAW);
        return x;
    }

    /** As much of everything as there may be. */
    private static DepositJudge full() {
        DepositJudge x = new DepositJudge();
        x.price(0, 0, 1000);
        for (int h = 0; h < 6; h++) {
            x.home(0, 4, 10000 + h, 0, h, h % 2 == 0);
        }
        for (int i = 0; i < 20; i++) {
            x.first(0, i % 10, 0, 5, i);
            x.last(0, i % 10, 0, 4);
            x.first(1, 0, 0, 1 + i % 9, 0);
        }
        for (int c = 0; c < 30; c++) {
            x.claim(c / 20, c % 20, c % 10, c % 8, c);
        }
        for (int k = 0; k < 40; k++) {
            x.twice(k % 6, (k + 1) % 6, k, 2 * k);
        }
        for (int k = 0; k < 30; k++) {
            x.fact(k % 11, (k + 1) % 11, 50 - k);
        }
        for (int row = 0; row < 11; row++) {
            x.feed(row, 2, 3, 4, 5);
        }
        for (int judge = 0; judge < 6; judge++) {
            x.kin(judge, 0, true);
        }
        return x;
    }

    /** All answers that tell something of the object, those that change it at the end. */
    private static List<Integer> answers(DepositJudge x) {
        List<Integer> all = new ArrayList<>();
        for (int what = 0; what < 36; what++) {
            all.add(x.count(what));
        }
        for (int h = 0; h < HOMES; h++) {
            for (int i = 0; i < 3; i++) {
                for (int what = 0; what < 5; what++) {
                    all.add(x.thing(h, i, what));
                }
                all.add(x.isNew(h, i));
                all.add(x.led(h, i, 1));
            }
            for (int what : new int[] {0, 2, 10, 11, 13}) {
                all.add(x.judged(h, 45, what));
            }
            all.add(x.like(h, 0));
            all.add(x.like(h, 1));
        }
        for (int c = 0; c < CLAIMS; c++) {
            for (int day : new int[] {24, 45}) {
                all.add(x.award(c, day, 0));
                all.add(x.award(c, day, 1));
            }
        }
        for (int k = 0; k < 3; k++) {
            for (int what = 0; what < 4; what++) {
                all.add(x.spread(k, what));
            }
            all.add(x.dated(k, 0));
            all.add(x.dated(k, 1));
            all.add(x.wrong(k - 1));
            all.add(x.byKind(k, 45));
        }
        changingAnswers(x, all);
        return all;
    }

    private static void changingAnswers(DepositJudge x, List<Integer> all) {
        all.add(x.law(NEXT_LAW.length()));
        all.add(x.count(3));
        all.add(x.thing(0, 0, 2));
        all.add(x.judged(0, 0, 2));
        for (int h = 0; h < HOMES; h++) {
            all.add(x.met(h));
            all.add(x.draw(h));
            all.add(x.offer(h, true, 9));
            all.add(x.met(h));
        }
        all.add(x.undo() ? 1 : 0);
        for (int h = 0; h < HOMES; h++) {
            all.add(x.offer(h, false, 400));
            all.add(x.met(h));
        }
        all.add(x.count(1));
        all.add(x.count(6));
        all.add(x.award(0, 45, 0));
        all.add(x.award(1, 45, 1));
        for (int judge = 0; judge < 6; judge++) {
            for (int h = 0; h < HOMES; h++) {
                all.add(x.kin(judge, h, true) ? 1 : 0);
            }
        }
    }

    private static int call(DepositJudge x, String name, int... given) {
        for (Method m : DepositJudge.class.getMethods()) {
            if (m.getName().equals(name)) {
                Object[] values = new Object[given.length];
                for (int p = 0; p < given.length; p++) {
                    boolean isFlag = m.getParameterTypes()[p] == boolean.class;
                    values[p] = isFlag ? (Object) (given[p] != 0) : (Object) given[p];
                }
                return answer(x, m, values);
            }
        }
        throw new IllegalArgumentException(name);
    }

    private static int answer(DepositJudge x, Method m, Object[] values) {
        try {
            Object got = m.invoke(x, values);
            return got instanceof Boolean ? (Boolean) got ? 1 : 0 : (Integer) got;
        } catch (ReflectiveOperationException e) {
            throw new IllegalStateException(m.getName() + Arrays.toString(values), e);
        }
    }

    private void unchanged(String name, Supplier<DepositJudge> made, ToIntFunction<DepositJudge> asked, int due) {
        DepositJudge untouched = made.get();
        DepositJudge touched = made.get();
        doc.is(name, asked.applyAsInt(touched), due);
        List<Integer> want = answers(untouched);
        List<Integer> got = answers(touched);
        int at = 0;
        while (at < want.size() && want.get(at).equals(got.get(at))) {
            at++;
        }
        doc.is(name + " changed answer " + at, at, want.size());
    }

    /** Each number alone is put just beyond its bounds and far beyond them. */
    private void beyond(String name, int due, int[] given, int[]... bounds) {
        for (int p = 0; p < bounds.length; p++) {
            if (bounds[p] == null) {
                continue;
            }
            for (int value : new int[] {bounds[p][0] - 1, bounds[p][1] + 1, Integer.MIN_VALUE, Integer.MAX_VALUE}) {
                int[] changed = given.clone();
                changed[p] = value;
                unchanged(name + Arrays.toString(changed), RefusalSentences::some, x -> call(x, name, changed), due);
            }
        }
    }

    private static int[] to(int least, int most) {
        return new int[] {least, most};
    }

    private static int[] numbers(int... given) {
        return given;
    }

    private void refused() {
        ofHomes();
        ofLists();
        ofClaims();
        ofJudges();
        ofOthers();
        asItIs();
        whenFull();
    }

    private void ofHomes() {
        int[] home = to(0, HOMES - 1);
        beyond("life", 0, numbers(0, 50), to(0, 7), to(1, 360));
        beyond("price", 0, numbers(0, 0, 50), to(0, 7), to(0, 3), to(0, 99999));
        beyond("home", -1, numbers(0, 1, 100, 5, 9, 1), to(0, 3), to(1, 4), to(0, 999999), to(0, 9), to(5, 999));
        beyond("part", 0, numbers(0, 0, 9), home, to(0, 1), to(0, 99));
        beyond("part", 0, numbers(2, 0, 9), home, to(0, 0));
        beyond("owes", 0, numbers(0, 0, 9), home, to(0, 2), to(0, 999999));
        beyond("judged", -1, numbers(0, 45, 3), home, to(0, 9999), to(0, 3));
        beyond("judged", -1, numbers(0, 45, 11), home, to(0, 9999), to(10, 11));
        beyond("like", -1, numbers(0, 0), home, to(0, 1));
        beyond("check", -2, numbers(0, 45, 1), home, to(0, 9999), to(0, 4));
    }

    private void ofLists() {
        int[] home = to(0, HOMES - 1);
        beyond("first", -1, numbers(0, 0, 0, 9, 9), home, to(0, 9), to(0, 7), to(1, 9), to(0, 360));
        beyond("last", -1, numbers(0, 0, 0, 9), home, to(0, 9), to(0, 7), to(1, 9));
        beyond("thing", -1, numbers(0, 0, 0), home, to(0, 3), to(0, 4));
        beyond("isNew", -1, numbers(0, 0), home, to(0, 3));
        beyond("led", -1, numbers(0, 0, 0), home, to(0, 3), to(0, 30));
        beyond("law", -1, numbers(5), to(1, 40));
    }

    private void ofClaims() {
        int[] home = to(0, HOMES - 1);
        int[] claim = to(0, CLAIMS - 1);
        beyond("claim", -1, numbers(0, 1, 0, 0, 45), home, to(0, 3), to(0, 9), to(0, 7), to(0, 9999));
        beyond("agree", 0, numbers(0, 99), claim, to(0, 999999));
        beyond("answer", 0, numbers(0, 12, 1), claim, to(10, 9999));
        beyond("answer", 0, numbers(1, 29, 0), claim, to(20, 9999));
        beyond("award", -1, numbers(0, 45, 0), claim, null, to(0, 1));
        beyond("award", -1, numbers(0, 45, 0), claim, to(0, 9999), to(0, 1));
        beyond("byKind", -1, numbers(0, 45), to(0, 7), to(0, 9999));
    }

    private void ofJudges() {
        int[] home = to(0, HOMES - 1);
        beyond("offer", -1, numbers(0, 1, 99), home, null, to(0, 999999));
        beyond("offer", -1, numbers(0, 0, 99), home, null, to(0, 999999));
        beyond("met", -1, numbers(0), home);
        beyond("kin", 0, numbers(0, 0, 1), to(0, 5), home);
        beyond("kin", 0, numbers(2, 0, 0), to(0, 5), home);
        beyond("seed", 0, numbers(0), to(0, 65535));
        beyond("draw", -1, numbers(0), home);
        beyond("twice", -1, numbers(0, 1, 5, 9), to(0, 5), to(0, 5), to(0, 9999), to(0, 9999));
        beyond("spread", -1000000, numbers(0, 0), to(0, 5), to(0, 3));
    }

    private void ofOthers() {
        beyond("fact", -1, numbers(0, 1, 9), to(0, 10), to(0, 10), to(-999, 999));
        beyond("dated", -100000, numbers(0, 0), to(0, 9), to(0, 1));
        beyond("wrong", -1, numbers(0), to(-1, 0));
        beyond("count", -1, numbers(0), to(0, 6));
        beyond("count", -1, numbers(10), to(10, 9 + HOMES));
        beyond("count", -1, numbers(20), to(20, 19 + HOMES));
        beyond("count", -1, numbers(30), to(30, 29 + CLAIMS));
    }

    private void asItIs() {
        unchanged("from after to", RefusalSentences::some, x -> x.home(0, 1, 5, 10, 9, true), -1);
        unchanged("a thing claimed", RefusalSentences::some, x -> x.claim(0, 0, 9, 7, 99), -2);
        unchanged("an answer ahead of its claim", RefusalSentences::some, x -> x.answer(3, 39, true) ? 1 : 0, 0);
        unchanged("an award ahead of its claim", RefusalSentences::some, x -> x.award(3, 39, 0), -2);
        unchanged("kin that is", RefusalSentences::some, x -> x.kin(2, 0, true) ? 1 : 0, 0);
        unchanged("kin that is none", RefusalSentences::some, x -> x.kin(0, 0, false) ? 1 : 0, 0);
        unchanged("one judge twice", RefusalSentences::some, x -> x.twice(1, 1, 5, 6), -1);
        unchanged("one picture twice", RefusalSentences::some, x -> x.fact(1, 1, -5), -1);
        unchanged("an offer lacks", RefusalSentences::some, x -> x.met(1), -2);
        unchanged("no doubles", RefusalSentences::some, x -> x.spread(5, 0), -1000000);
        unchanged("no bound", RefusalSentences::some, x -> x.dated(7, 0), -100000);
        unchanged("nothing kept", RefusalSentences::full, x -> x.undo() ? 1 : 0, 0);
        unchanged("too few bytes for a law", RefusalSentences::some, x -> x.law(41), -1);
        unchanged("all are kin", RefusalSentences::full, x -> x.draw(0), -2);
    }

    private void whenFull() {
        unchanged("a seventh home", RefusalSentences::full, x -> x.home(0, 1, 5, 0, 9, true), -1);
        unchanged("a 21st thing at first", RefusalSentences::full, x -> x.first(0, 0, 0, 9, 0), -1);
        unchanged("a 21st thing at last", RefusalSentences::full, x -> x.last(0, 0, 0, 9), -1);
        unchanged("a 31st claim", RefusalSentences::full, x -> x.claim(1, 10, 0, 0, 0), -1);
        unchanged("a 31st claim, claimed", RefusalSentences::full, x -> x.claim(1, 9, 0, 0, 0), -2);
        unchanged("a 41st double", RefusalSentences::full, x -> x.twice(0, 1, 9, 1), -1);
        unchanged("a 31st fact", RefusalSentences::full, x -> x.fact(10, 0, 99), -1);
        unchanged("a full tape", RefusalSentences::full, x -> x.feed(9, 9, 9, 9, 9), -1);
        unchanged("more bytes than a law has", RefusalSentences::full, x -> x.law(201), -1);
    }

    /** A fault and a check empty the tape; a law or a check that is refused does not. */
    private void butTheTape() {
        DepositJudge x = some();
        doc.is("tape", x.count(3), 40);
        doc.is("a law that is refused", x.law(41), -1);
        doc.is("tape", x.count(3), 40);
        doc.is("a check that is refused", x.check(3, 0, 1), -2);
        doc.is("tape", x.count(3), 40);
        doc.is("a fault", x.law(3), -1003);
        doc.is("tape", x.count(3), 0);
        doc.is("clauses stay", x.count(2), 5);
        x.feed(1, 2, 3, 4, 5);
        doc.is("a check", x.check(1, 45, 1), 0);
        doc.is("tape", x.count(3), 0);
        DepositJudge y = some();
        y.law(3);
        Due.feed(y, NEXT_LAW);
        List<Integer> got = answers(y);
        doc.yes("a fault changes nothing but the tape", got.equals(answers(some())));
        DepositJudge z = some();
        z.check(0, 45, 2);
        Due.feed(z, NEXT_LAW);
        doc.yes("a check changes nothing but the tape", answers(z).equals(answers(some())));
    }
}
