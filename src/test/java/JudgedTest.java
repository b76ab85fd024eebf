/** Promises 18 and 33: what goes to the owner and back to each tenant, and the check of it. */
public final class JudgedTest {
    private static final Due due = new Due();

    public static void main(String[] args) {
        toTheOwner();
        penalties();
        shares();
        greatest();
        refusals();
        checks();
        checkRefusals();
        due.end();
    }

    private static DepositJudge court(int tenants, int deposit, boolean kept) {
        DepositJudge x = new DepositJudge();
        x.price(0, 0, 1000);
        x.home(0, tenants, deposit, 0, 0, kept);
        x.home(0, 1, 70, 0, 0, true);
        x.first(0, 0, 0, 5, 0);
        x.first(0, 1, 0, 5, 0);
        x.first(1, 1, 0, 5, 0);
        return x;
    }

    private static void judged(String name, DepositJudge x, int day, int... want) {
        for (int what = 0; what < want.length; what++) {
            due.is("18 " + name + ", what " + what, x.judged(0, day, what), want[what]);
        }
    }

    private static void toTheOwner() {
        DepositJudge x = court(2, 1500, true);
        judged("nothing", x, 0, 0, 1500, 0, 0);
        x.claim(0, 0, 0, 0, 3);
        x.claim(0, 1, 0, 0, 5);
        x.claim(1, 0, 0, 0, 0);
        x.agree(0, 1000);
        x.agree(1, 400);
        x.agree(2, 1000);
        judged("none made by then", x, 2, 0, 1500, 0, 0);
        judged("one made by then", x, 3, 1000, 500, 0, 1000);
        judged("both", x, 5, 1400, 100, 0, 1400);
        x.owes(0, 0, 30);
        judged("rent", x, 5, 1430, 70, 0, 1400);
        x.owes(0, 1, 40);
        x.owes(0, 2, 30);
        judged("all of it", x, 5, 1500, 0, 0, 1400);
        x.owes(0, 2, 31);
        judged("not more", x, 5, 1500, 0, 0, 1400);
        due.is("18 another home", x.judged(1, 5, 0), 70);
        due.is("18 another home", x.judged(1, 5, 3), 1000);
    }

    private static void penalties() {
        DepositJudge x = court(2, 501, false);
        judged("no law", x, 0, 0, 501, 0, 0);
        Due.law(x, "t3(n=2)");
        judged("not kept", x, 0, 0, 501, 1503, 0);
        due.is("18 with the penalty", x.judged(0, 0, 10), 1002);
        due.is("18 with the penalty", x.judged(0, 0, 11), 1002);
        x.owes(0, 0, 502);
        judged("of the owner's own", x, 0, 501, 0, 1503, 0);
        due.is("18 with the penalty", x.judged(0, 0, 10), 752);
        due.is("18 with the penalty", x.judged(0, 0, 11), 751);
        Due.law(x, "t10(n=2)");
        due.is("18 the bound", x.judged(0, 0, 2), 4509);
        Due.law(x, "t0-1(n=2)");
        due.is("18 the lower bound", x.judged(0, 0, 2), 0);
        Due.law(x, "t1(n=1)");
        due.is("18 no clause that holds", x.judged(0, 0, 2), 0);
        DepositJudge y = court(2, 501, true);
        Due.law(y, "t3(n=2)");
        due.is("18 kept", y.judged(0, 0, 2), 0);
    }

    private static void shares(String name, int pence, int[] parts, int... want) {
        DepositJudge x = new DepositJudge();
        x.home(0, parts.length, pence, 0, 0, true);
        for (int t = 0; t < parts.length; t++) {
            x.part(0, t, parts[t]);
        }
        for (int t = 0; t < want.length; t++) {
            due.is("18 " + name + ", tenant " + t, x.judged(0, 0, 10 + t), want[t]);
        }
        due.is("18 " + name + ", no more tenants", x.judged(0, 0, 10 + parts.length), -1);
    }

    private static void shares() {
        shares("one", 777, new int[] {5}, 777);
        shares("even", 100, new int[] {1, 1, 1, 1}, 25, 25, 25, 25);
        shares("a penny to the lowest", 101, new int[] {1, 1, 1, 1}, 26, 25, 25, 25);
        shares("three pennies", 103, new int[] {1, 1, 1, 1}, 26, 26, 26, 25);
        shares("to the greatest rest", 10, new int[] {1, 2, 4}, 1, 3, 6);
        shares("to the last", 11, new int[] {1, 1, 5}, 2, 1, 8);
        shares("one has none", 11, new int[] {0, 1, 1}, 0, 6, 5);
        shares("all have none", 11, new int[] {0, 0, 0}, 4, 4, 3);
        shares("all but one have none", 11, new int[] {0, 0, 7}, 0, 0, 11);
        shares("less than tenants", 2, new int[] {3, 3, 3}, 1, 1, 0);
        shares("two to two", 6, new int[] {3, 1, 3, 1}, 2, 1, 2, 1);
        shares("nothing", 0, new int[] {3, 1}, 0, 0);
        shares("one of 99", 1, new int[] {49, 99}, 0, 1);
    }

    private static void greatest() {
        DepositJudge x = new DepositJudge();
        x.home(0, 4, 999999, 0, 0, false);
        Due.law(x, "t9(1=1)");
        for (int t = 0; t < 4; t++) {
            x.part(0, t, 99 - t);
        }
        due.is("18 penalty", x.judged(0, 0, 2), 8999991);
        due.is("18 greatest", x.judged(0, 0, 10), 2538459);
        due.is("18 greatest", x.judged(0, 0, 11), 2512818);
        due.is("18 greatest", x.judged(0, 0, 12), 2487177);
        due.is("18 greatest", x.judged(0, 0, 13), 2461536);
        DepositJudge y = new DepositJudge();
        y.price(0, 0, 99999);
        y.home(0, 1, 999999, 0, 0, true);
        for (int i = 0; i < 20; i++) {
            y.first(0, 0, 0, 9, 0);
            y.claim(0, i, 0, 0, 0);
        }
        for (int what = 0; what < 3; what++) {
            y.owes(0, what, 999999);
        }
        due.is("18 twenty awards", y.judged(0, 9999, 3), 1999980);
        due.is("18 not more than the deposit", y.judged(0, 9999, 0), 999999);
        due.is("18 nothing back", y.judged(0, 9999, 1), 0);
    }

    private static void refusals() {
        DepositJudge x = court(2, 10, true);
        due.is("18 no such home", x.judged(2, 0, 0), -1);
        due.is("18 no such home", x.judged(-1, 0, 0), -1);
        due.is("18 day below", x.judged(0, -1, 0), -1);
        due.is("18 day above", x.judged(0, 10000, 0), -1);
        due.is("18 last day", x.judged(0, 9999, 1), 10);
        for (int what : new int[] {-1, 4, 5, 9, 12, 13, 14, Integer.MAX_VALUE, Integer.MIN_VALUE}) {
            due.is("18 no such what " + what, x.judged(0, 0, what), -1);
        }
    }

    private static void checks() {
        DepositJudge x = court(3, 100, true);
        x.feed(34, 33, 33, 0, 0);
        due.is("33 right", x.check(0, 0, 3), -1);
        due.is("33 empty then", x.count(3), 0);
        x.feed(33, 33, 34, 0, 0);
        due.is("33 the first", x.check(0, 0, 3), 0);
        due.is("33 empty then", x.count(3), 0);
        x.feed(34, 33, 34, 0, 0);
        due.is("33 the third", x.check(0, 0, 3), 2);
        x.feed(34, 33, 33, 0, 0);
        due.is("33 one too many", x.check(0, 0, 4), 3);
        x.feed(34, 0, 33, 0, 0);
        due.is("33 wrong ahead of too many", x.check(0, 0, 4), 1);
        x.feed(34, 33, 33, 0, 0);
        due.is("33 one lacks", x.check(0, 0, 2), 2);
        due.is("33 all lack", x.check(0, 0, 0), 0);
        x.feed(34, 33, 33, 0, 0);
        due.is("33 all lack, empty then", x.check(0, 0, 0), 0);
        due.is("33 empty then", x.count(3), 0);
        x.feed(34 + (1 << 24), 33, 33, 0, 0);
        due.is("33 four bytes", x.check(0, 0, 3), 0);
        x.feed(-34, 33, 33, 0, 0);
        due.is("33 below 0", x.check(0, 0, 3), 0);
        x.owes(0, 0, 100);
        x.feed(0, 0, 0, 0, 0);
        due.is("33 nothing back", x.check(0, 0, 3), -1);
        DepositJudge y = court(4, 999999, false);
        Due.law(y, "t9(1=1)");
        y.feed(2499998, 2499998, 2499997, 2499997, 7);
        due.is("33 with the penalty", y.check(0, 0, 4), -1);
        y.claim(0, 0, 0, 0, 5);
        y.agree(0, 2);
        y.feed(2499997, 2499997, 2499997, 2499997, 7);
        due.is("33 on that day", y.check(0, 5, 4), -1);
        y.feed(2499997, 2499997, 2499997, 2499997, 7);
        due.is("33 on a day before", y.check(0, 4, 4), 0);
    }

    private static void checkRefusals() {
        DepositJudge x = court(3, 100, true);
        due.is("33 it has not so many", x.check(0, 0, 1), -2);
        x.feed(34, 33, 33, 0, 0);
        due.is("33 no such home", x.check(2, 0, 3), -2);
        due.is("33 no such home", x.check(-1, 0, 3), -2);
        due.is("33 day below", x.check(0, -1, 3), -2);
        due.is("33 day above", x.check(0, 10000, 3), -2);
        due.is("33 n above", x.check(0, 0, 5), -2);
        due.is("33 n below", x.check(0, 0, -1), -2);
        due.is("33 n far above", x.check(0, 0, Integer.MAX_VALUE), -2);
        due.is("33 n far below", x.check(0, 0, Integer.MIN_VALUE), -2);
        due.is("33 the tape stays", x.count(3), 20);
        due.is("33 right at last", x.check(0, 9999, 3), -1);
    }
}
