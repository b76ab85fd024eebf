/** Promises 31, 32, 34: what is kept and undone, and the counts. */
public final class KeepTest {
    private static final Due due = new Due();

    public static void main(String[] args) {
        claims();
        offersAndX();
        keptLast();
        claimsInAnothersPlace();
        whatIsNotKept();
        counts();
        due.end();
    }

    private static DepositJudge court() {
        DepositJudge x = new DepositJudge();
        x.price(0, 0, 1000);
        x.home(0, 2, 5000, 0, 0, true);
        for (int i = 0; i < 5; i++) {
            x.first(0, i, 0, 5, 0);
        }
        return x;
    }

    private static void claims() {
        DepositJudge x = court();
        due.no("32 none was kept", x.undo());
        x.claim(0, 0, 1, 3, 4);
        x.claim(0, 1, 1, 3, 4);
        x.agree(0, 100);
        x.answer(1, 6, true);
        due.is("31 two", x.keep(), 2);
        due.is("31 changes nothing", x.award(0, 5, 0), 100);
        x.agree(0, 200);
        x.answer(1, 9, false);
        x.answer(0, 9, false);
        x.claim(0, 2, 1, 3, 4);
        due.is("31 since then", x.count(1), 3);
        due.yes("32 undone", x.undo());
        due.is("32 claims", x.count(1), 2);
        due.is("32 no third", x.award(2, 5, 0), -1);
        due.is("32 agreed", x.award(0, 9, 0), 100);
        due.is("32 no answer", x.award(0, 9, 1), 4);
        Due.law(x, "b(k=0)");
        due.is("32 the answer's proof", x.award(1, 6, 1), 6);
        due.is("32 the answer's day", x.award(1, 5, 1), 4);
        due.is("32 a third again", x.claim(0, 3, 0, 0, 0), 2);
        due.is("32 and a fourth", x.claim(0, 2, 0, 0, 0), 3);
        due.is("32 as new", x.award(3, 0, 1), 4);
        due.yes("32 once more", x.undo());
        due.is("32 as they were kept", x.count(1), 2);
        due.is("32 a third once more", x.claim(0, 4, 0, 0, 0), 2);
        due.is("32 its letters are its own", x.award(2, 0, 0), 0);
    }

    private static void offersAndX() {
        DepositJudge x = court();
        x.offer(0, true, 10);
        x.seed(77);
        due.is("31 no claims", x.keep(), 0);
        x.offer(0, true, 500);
        x.offer(0, false, 20);
        x.draw(0);
        x.home(0, 1, 0, 0, 0, true);
        x.offer(1, true, 1);
        x.offer(1, false, 1);
        due.is("32 met before", x.met(1), 1);
        due.is("32 fallen", x.met(0), -3);
        due.yes("32 undone", x.undo());
        due.is("32 X", x.count(6), 77);
        due.is("32 one lacks again", x.met(0), -2);
        due.is("32 one is there again", x.offer(0, false, 20), 1);
        due.is("32 as it was", x.met(0), 15);
        due.is("32 none of the new home", x.met(1), -2);
        due.is("32 none of the new home", x.offer(1, true, 1), 0);
    }

    private static void keptLast() {
        DepositJudge x = court();
        x.claim(0, 0, 0, 0, 0);
        x.keep();
        x.claim(0, 1, 0, 0, 0);
        due.is("31 kept again", x.keep(), 2);
        x.claim(0, 2, 0, 0, 0);
        x.undo();
        due.is("32 as kept last", x.count(1), 2);
        x.undo();
        due.is("32 as kept last", x.count(1), 2);
        x.agree(0, 5);
        x.keep();
        x.agree(0, 6);
        x.undo();
        due.is("32 as kept last", x.award(0, 0, 0), 5);
        x.agree(0, 7);
        due.is("32 changes after undo are not of the kept", x.award(0, 0, 0), 7);
        x.undo();
        due.is("32 as kept last", x.award(0, 0, 0), 5);
    }

    private static void claimsInAnothersPlace() {
        DepositJudge x = court();
        x.keep();
        x.claim(0, 0, 4, 3, 9);
        x.agree(0, 77);
        x.answer(0, 9, true);
        x.undo();
        due.is("32 that thing is free again", x.claim(0, 0, 4, 3, 2), 0);
        due.is("32 nothing agreed", x.award(0, 9, 0), 0);
        due.is("32 nothing answered", x.award(0, 9, 1), 4);
        due.is("32 its day", x.award(0, 2, 1), 4);
        x.undo();
        due.is("32 another thing", x.claim(0, 3, 1, 1, 5), 0);
        due.is("32 the first is free", x.claim(0, 0, 1, 1, 5), 1);
        due.is("31 both", x.keep(), 2);
        due.is("32 a third", x.claim(0, 4, 1, 1, 5), 2);
        x.undo();
        due.is("32 claimed", x.claim(0, 3, 1, 1, 5), -2);
        due.is("32 claimed", x.claim(0, 0, 1, 1, 5), -2);
        due.is("32 free", x.claim(0, 4, 1, 1, 5), 2);
    }

    private static void whatIsNotKept() {
        DepositJudge x = court();
        x.keep();
        x.price(0, 0, 500);
        x.life(0, 60);
        x.home(0, 1, 0, 0, 0, true);
        x.part(0, 0, 3);
        x.owes(0, 0, 5);
        x.first(1, 0, 0, 5, 30);
        x.last(1, 0, 0, 4);
        x.kin(2, 0, true);
        x.twice(0, 1, 2, 3);
        x.fact(10, 1, 2);
        Due.law(x, "f1(k=0)");
        x.feed(1, 2, 3, 4, 5);
        x.undo();
        due.is("32 homes", x.count(0), 2);
        due.is("32 first list", x.count(11), 1);
        due.is("32 last list", x.count(21), 1);
        due.is("32 clauses", x.count(2), 1);
        due.is("32 tape", x.count(3), 20);
        due.is("32 doubles", x.count(4), 1);
        due.is("32 facts", x.count(5), 1);
        due.is("32 prices and lives", x.led(1, 0, 0), 250);
        due.is("32 debts", x.judged(0, 0, 0), 5);
        due.is("32 parts", x.judged(0, 0, 10), 3746);
        due.no("32 kin", x.kin(2, 0, true));
        due.is("32 law", x.thing(1, 0, 2), 1);
    }

    private static void counts() {
        DepositJudge x = new DepositJudge();
        due.is("34 no home", x.count(10), -1);
        due.is("34 no home", x.count(20), -1);
        due.is("34 no claim", x.count(30), -1);
        for (int h = 0; h < 6; h++) {
            x.home(0, 1, 0, 0, 0, true);
            for (int i = 0; i <= h; i++) {
                x.first(h, 0, 0, 1, 0);
                x.last(h, 0, 0, 1);
                x.last(h, 0, 0, 1);
            }
        }
        for (int h = 0; h < 6; h++) {
            due.is("34 first list", x.count(10 + h), h + 1);
            due.is("34 last list", x.count(20 + h), 2 * h + 2);
        }
        x.claim(3, 0, 0, 0, 0);
        x.claim(5, 2, 0, 0, 0);
        x.claim(0, 0, 0, 0, 0);
        due.is("34 homes", x.count(0), 6);
        due.is("34 claims", x.count(1), 3);
        due.is("34 home of a claim", x.count(30), 3);
        due.is("34 home of a claim", x.count(31), 5);
        due.is("34 home of a claim", x.count(32), 0);
        int[] others = {-1, 7, 8, 9, 16, 17, 18, 19, 26, 27, 28, 29, 33, 60, Integer.MAX_VALUE, Integer.MIN_VALUE};
        for (int what : others) {
            due.is("34 others " + what, x.count(what), -1);
        }
        Due.law(x, "f1(k=0);b(k=0)");
        x.feed(0, 0, 0, 0, 0);
        x.feed(0, 0, 0, 0, 0);
        x.twice(0, 1, 0, 0);
        x.fact(0, 1, 0);
        x.fact(0, 1, 0);
        x.seed(9);
        due.is("34 clauses", x.count(2), 2);
        due.is("34 tape", x.count(3), 40);
        due.is("34 doubles", x.count(4), 1);
        due.is("34 facts", x.count(5), 2);
        due.is("34 X", x.count(6), 9);
    }
}
