import java.util.ArrayList;
import java.util.LinkedHashMap;
import java.util.List;
import java.util.Map;
import java.util.Set;
import java.util.function.BiConsumer;
import java.util.function.Consumer;

/** Each call changes what the document tells that it changes, and nothing else. */
final class Changes {
    private static final int HOMES = 3;
    private static final String LAW = "f1(k=0);p50(c=1);d9(c=2);b(c=3);t2(n>1)";
    private static final String NEXT_LAW = "f2(1=1);p[c+v]*10(1=1);t[m+n](1=1)";

    private final Sentences doc;
    private final Map<String, BiConsumer<DepositJudge, List<Integer>>> groups = new LinkedHashMap<>();

    Changes(Sentences doc) {
        this.doc = doc;
        groups.put("homes", (x, all) -> all.add(x.count(0)));
        groups.put("lists", Changes::lists);
        groups.put("joined", Changes::joined);
        groups.put("wear", (x, all) -> things(x, all, 2));
        groups.put("worth", Changes::worth);
        groups.put("lost", (x, all) -> things(x, all, 4));
        groups.put("claims", Changes::claims);
        groups.put("awards", Changes::awards);
        groups.put("awardsTogether", Changes::awardsTogether);
        groups.put("judged", Changes::judged);
        groups.put("penalty", Changes::penalty);
        groups.put("shares", Changes::shares);
        groups.put("clauses", (x, all) -> all.add(x.count(2)));
        groups.put("tape", Changes::tape);
        groups.put("offers", Changes::offers);
        groups.put("kin", Changes::kin);
        groups.put("x", (x, all) -> all.add(x.count(6)));
        groups.put("doubles", Changes::doubles);
        groups.put("like", Changes::like);
        groups.put("facts", Changes::facts);
        groups.put("kept", Changes::kept);
    }

    void run() {
        ofPricesAndHomes();
        ofLists();
        ofTheTape();
        ofClaims();
        ofOffersAndJudges();
        ofPicturesAndKept();
        asked();
    }

    /** Something of everything; the tape bears a law, and what was kept is not as it is now. */
    private static DepositJudge made() {
        DepositJudge x = new DepositJudge();
        for (int kind = 0; kind < 3; kind++) {
            x.life(kind, 200 + kind);
            x.price(kind, 0, 5000 + kind);
            x.price(kind, 1, 6000 + kind);
        }
        x.home(0, 2, 9001, 5, 29, false);
        x.home(1, 4, 7777, 0, 0, true);
        x.home(0, 1, 50000, 100, 160, false);
        x.owes(0, 1, 17);
        for (int i = 0; i < 4; i++) {
            x.first(0, 0, 0, 9 - i, 10 * i);
            x.first(1, i, 1, 7, 0);
            x.last(0, 0, 0, 2 + i);
            x.last(1, i, 1, 7 - i);
        }
        x.first(2, 9, 2, 9, 40);
        Due.law(x, LAW);
        x.claim(0, 0, 1, 3, 10);
        x.claim(0, 2, 3, 1, 20);
        x.agree(0, 40);
        x.answer(1, 25, false);
        x.offer(0, true, 300);
        x.keep();
        x.claim(1, 3, 2, 6, 30);
        x.claim(2, 0, 0, 7, 40);
        x.answer(0, 41, false);
        x.answer(3, 41, false);
        x.offer(0, false, 501);
        x.offer(1, true, 40);
        x.offer(1, false, 39);
        x.kin(2, 0, true);
        x.kin(4, 1, true);
        x.draw(0);
        x.twice(0, 1, 50, 20);
        x.fact(10, 0, 5);
        x.fact(0, 1, 3);
        x.fact(1, 0, 4);
        Due.feed(x, NEXT_LAW);
        return x;
    }

    // ---- what can be asked, in groups

    private static void lists(DepositJudge x, List<Integer> all) {
        for (int h = 0; h < HOMES; h++) {
            all.add(x.count(10 + h));
            all.add(x.count(20 + h));
        }
    }

    private static void things(DepositJudge x, List<Integer> all, int what) {
        for (int h = 0; h < HOMES; h++) {
            for (int i = 0; i < 4; i++) {
                all.add(x.thing(h, i, what));
            }
        }
    }

    private static void joined(DepositJudge x, List<Integer> all) {
        things(x, all, 0);
        things(x, all, 1);
        for (int h = 0; h < HOMES; h++) {
            for (int j = 0; j < 4; j++) {
                all.add(x.isNew(h, j));
            }
        }
    }

    private static void worth(DepositJudge x, List<Integer> all) {
        things(x, all, 3);
        for (int h = 0; h < HOMES; h++) {
            for (int i = 0; i < 4; i++) {
                all.add(x.led(h, i, 1));
            }
        }
    }

    private static void claims(DepositJudge x, List<Integer> all) {
        all.add(x.count(1));
        for (int c = 0; c < 30; c++) {
            all.add(x.count(30 + c));
        }
    }

    private static void awards(DepositJudge x, List<Integer> all) {
        for (int c = 0; c < 4; c++) {
            for (int day : new int[] {24, 45}) {
                all.add(x.award(c, day, 0));
                all.add(x.award(c, day, 1));
            }
        }
    }

    private static void awardsTogether(DepositJudge x, List<Integer> all) {
        for (int kind = 0; kind < 3; kind++) {
            all.add(x.byKind(kind, 45));
        }
        for (int h = 0; h < HOMES; h++) {
            all.add(x.judged(h, 45, 3));
        }
    }

    private static void judged(DepositJudge x, List<Integer> all) {
        for (int h = 0; h < HOMES; h++) {
            all.add(x.judged(h, 45, 0));
            all.add(x.judged(h, 45, 1));
        }
    }

    private static void penalty(DepositJudge x, List<Integer> all) {
        for (int h = 0; h < HOMES; h++) {
            all.add(x.judged(h, 45, 2));
        }
    }

    private static void shares(DepositJudge x, List<Integer> all) {
        for (int h = 0; h < HOMES; h++) {
            for (int t = 0; t < 4; t++) {
                all.add(x.judged(h, 45, 10 + t));
            }
        }
    }

    private static void tape(DepositJudge x, List<Integer> all) {
        all.add(x.count(3));
        all.add(x.law(NEXT_LAW.length()));
        all.add(x.count(3));
    }

    private static void offers(DepositJudge x, List<Integer> all) {
        for (int h = 0; h < HOMES; h++) {
            all.add(x.met(h));
            all.add(x.offer(h, true, 0));
            all.add(x.met(h));
        }
    }

    private static void kin(DepositJudge x, List<Integer> all) {
        for (int h = 0; h < HOMES; h++) {
            for (int judge = 0; judge < 6; judge++) {
                all.add(x.kin(judge, h, true) ? 1 : 0);
            }
        }
    }

    private static void doubles(DepositJudge x, List<Integer> all) {
        all.add(x.count(4));
        for (int judge = 0; judge < 6; judge++) {
            for (int what = 0; what < 4; what++) {
                all.add(x.spread(judge, what));
            }
        }
    }

    private static void like(DepositJudge x, List<Integer> all) {
        for (int h = 0; h < HOMES; h++) {
            all.add(x.like(h, 0));
            all.add(x.like(h, 1));
        }
    }

    private static void facts(DepositJudge x, List<Integer> all) {
        all.add(x.count(5));
        for (int k = 0; k < 3; k++) {
            all.add(x.wrong(k - 1));
            all.add(x.dated(k, 0));
            all.add(x.dated(k, 1));
        }
    }

    /** The reasons tell of answers and of what is agreed, whatever things are worth. */
    private static void kept(DepositJudge x, List<Integer> all) {
        all.add(x.undo() ? 1 : 0);
        claims(x, all);
        all.add(x.count(6));
        offers(x, all);
        for (int kind = 0; kind < 3; kind++) {
            x.price(kind, 0, 90000);
            x.life(kind, 300);
        }
        x.law(1);
        Due.law(x, "b(1=1)");
        all.add(x.award(0, 45, 1));
        all.add(x.award(0, 45, 0));
        all.add(x.award(1, 45, 1));
    }

    // ---- what each call may change

    private Map<String, List<Integer>> answers(Consumer<DepositJudge> call) {
        Map<String, List<Integer>> all = new LinkedHashMap<>();
        for (Map.Entry<String, BiConsumer<DepositJudge, List<Integer>>> group : groups.entrySet()) {
            DepositJudge x = made();
            call.accept(x);
            List<Integer> answers = new ArrayList<>();
            group.getValue().accept(x, answers);
            all.put(group.getKey(), answers);
        }
        return all;
    }

    /** The calls change just these groups, each of them. */
    private void changes(String call, Consumer<DepositJudge> calls, String... changed) {
        Map<String, List<Integer>> before = answers(x -> { });
        Map<String, List<Integer>> after = answers(calls);
        Set<String> due = Set.of(changed);
        for (String group : groups.keySet()) {
            boolean isSame = before.get(group).equals(after.get(group));
            doc.is(call + " changes " + group + " " + before.get(group) + " " + after.get(group), isSame ? 0 : 1,
                    due.contains(group) ? 1 : 0);
        }
    }

    private void ofPricesAndHomes() {
        String[] prices = {"worth", "lost", "awards", "awardsTogether", "judged", "shares"};
        changes("life", x -> x.life(0, 100), prices);
        changes("life of a kind that is not there", x -> x.life(5, 100));
        changes("price", x -> x.price(0, 0, 7000), prices);
        changes("price in a region that no thing is in", x -> x.price(0, 3, 7000));
        changes("home", x -> x.home(0, 1, 100, 5, 30, true), "homes", "like");
        changes("part", x -> x.part(0, 0, 5), "shares");
        changes("owes", x -> x.owes(0, 0, 90), "judged", "shares");
        changes("owes more than the deposit", x -> {
            x.owes(0, 0, 50000);
            x.owes(0, 1, 50000);
        }, "judged", "shares");
    }

    private void ofLists() {
        changes("first", x -> x.first(2, 8, 0, 5, 0), "lists", "joined", "wear", "worth", "lost", "like");
        changes("first, joined to nothing, ahead of none", x -> x.first(0, 5, 7, 5, 0), "lists", "like");
        changes("last, of no thing at first", x -> x.last(2, 8, 0, 5), "lists", "joined");
        changes("last, of a claimed thing", x -> x.last(2, 9, 2, 4),
                "lists", "joined", "lost", "awards", "awardsTogether", "judged", "shares");
        changes("last, of a gone thing, as it was", x -> x.last(2, 9, 2, 9),
                "lists", "joined", "lost", "awards", "awardsTogether", "judged", "shares", "like");
    }

    private void ofTheTape() {
        changes("feed", x -> x.feed(1, 2, 3, 4, 5), "tape");
        changes("law", x -> x.law(NEXT_LAW.length()),
                "clauses", "tape", "wear", "lost", "awards", "awardsTogether", "judged", "penalty", "shares");
        changes("law with a fault", x -> x.law(5), "tape");
        changes("law of penalties", x -> {
            x.law(1);
            Due.law(x, LAW.replace("t2", "t3"));
            Due.feed(x, NEXT_LAW);
        }, "penalty", "shares");
        changes("check", x -> x.check(0, 45, 2), "tape");
    }

    private void ofClaims() {
        changes("claim of what is lost not", x -> x.claim(1, 0, 0, 0, 0), "claims");
        changes("claim", x -> {
            x.claim(1, 2, 0, 3, 0);
            x.answer(4, 40, false);
        }, "claims", "awardsTogether", "judged", "shares");
        changes("agree to more than is awarded", x -> x.agree(0, 2000), "awards", "awardsTogether", "judged", "shares");
        changes("agree to less than is awarded", x -> x.agree(2, 15));
        changes("proof where the owner must prove", x -> x.answer(3, 41, true));
        changes("answer that comes too late", x -> x.answer(3, 46, false), "awards", "awardsTogether", "judged", "shares");
        changes("answer that is proved", x -> x.answer(1, 25, true), "awards", "awardsTogether", "judged", "shares");
        changes("answer as it was", x -> x.answer(1, 25, false));
    }

    private void ofOffersAndJudges() {
        changes("offer", x -> x.offer(0, true, 400), "offers");
        changes("offer as it was", x -> x.offer(0, true, 300));
        changes("met", x -> x.met(0));
        changes("not met", x -> x.met(1), "offers");
        changes("kin", x -> x.kin(5, 0, true), "kin");
        changes("kin no more", x -> x.kin(2, 0, false), "kin");
        changes("seed", x -> x.seed(77), "x");
        changes("draw", x -> x.draw(1), "x");
        changes("twice", x -> x.twice(3, 4, 5, 6), "doubles");
    }

    private void ofPicturesAndKept() {
        changes("fact", x -> x.fact(10, 2, 6), "facts");
        changes("wrong fact", x -> x.fact(1, 0, 9), "facts");
        changes("keep", x -> x.keep(), "kept");
        changes("undo", x -> x.undo(), "claims", "awards", "awardsTogether", "judged", "shares", "offers", "x");
        changes("keep and undo", x -> {
            x.keep();
            x.undo();
        }, "kept");
    }

    /** To ask changes nothing, however often. */
    private void asked() {
        changes("asking", x -> {
            List<Integer> all = new ArrayList<>();
            for (int turn = 0; turn < 3; turn++) {
                lists(x, all);
                joined(x, all);
                worth(x, all);
                things(x, all, 2);
                things(x, all, 4);
                claims(x, all);
                awards(x, all);
                awardsTogether(x, all);
                judged(x, all);
                penalty(x, all);
                shares(x, all);
                doubles(x, all);
                like(x, all);
                facts(x, all);
            }
        });
    }
}
