/** Promises 1 to 6: a new object, lives, prices, homes, parts, debts. */
public final class HomesTest {
    private static final Due due = new Due();

    public static void main(String[] args) {
        newObject();
        lives();
        prices();
        homes();
        parts();
        debts();
        due.end();
    }

    private static void newObject() {
        DepositJudge x = new DepositJudge();
        due.is("1 NONE", DepositJudge.NONE, -1);
        for (int what = 0; what < 6; what++) {
            due.is("1 count " + what, x.count(what), 0);
        }
        due.is("1 the seed", x.count(6), 1);
        due.no("1 undo", x.undo());
        due.is("1 wrong", x.wrong(-1), 0);
        due.is("1 no law", x.home(0, 1, 500, 0, 10, false), 0);
        due.is("1 no penalty without a law", x.judged(0, 0, 2), 0);
    }

    private static DepositJudge withThing(int age) {
        DepositJudge x = new DepositJudge();
        x.price(2, 1, 1000);
        x.home(1, 1, 0, 0, 10, true);
        x.first(0, 0, 2, 5, age);
        return x;
    }

    private static void lives() {
        DepositJudge x = withThing(20);
        due.is("2 life at first 120", x.thing(0, 0, 3), 750);
        due.yes("2 life", x.life(2, 40));
        due.is("2 life 40", x.thing(0, 0, 3), 250);
        due.yes("2 least life", x.life(2, 1));
        due.is("2 life 1", x.thing(0, 0, 3), 0);
        due.yes("2 greatest life", x.life(2, 360));
        due.is("2 life 360", x.thing(0, 0, 3), 916);
        due.yes("2 of another kind", x.life(7, 1));
        due.yes("2 of another kind", x.life(0, 1));
        due.no("2 no month", x.life(2, 0));
        due.no("2 too many months", x.life(2, 361));
        due.no("2 kind below", x.life(-1, 10));
        due.no("2 kind above", x.life(8, 10));
        due.no("2 least int", x.life(Integer.MIN_VALUE, Integer.MIN_VALUE));
        due.is("2 all that changed nothing", x.thing(0, 0, 3), 916);
    }

    private static void prices() {
        DepositJudge x = withThing(0);
        due.is("3 price", x.led(0, 0, 0), 1000);
        due.yes("3 another region", x.price(2, 0, 7));
        due.yes("3 another kind", x.price(1, 1, 7));
        due.is("3 not of this one", x.led(0, 0, 0), 1000);
        due.yes("3 dearest", x.price(2, 1, 99999));
        due.is("3 dearest", x.led(0, 0, 0), 99999);
        due.no("3 too dear", x.price(2, 1, 100000));
        due.no("3 below 0", x.price(2, 1, -1));
        due.no("3 kind below", x.price(-1, 1, 5));
        due.no("3 kind above", x.price(8, 1, 5));
        due.no("3 region below", x.price(2, -1, 5));
        due.no("3 region above", x.price(2, 4, 5));
        due.is("3 unchanged", x.led(0, 0, 0), 99999);
        due.yes("3 free", x.price(2, 1, 0));
        due.is("3 free", x.led(0, 0, 0), 0);
        DepositJudge y = new DepositJudge();
        y.home(3, 1, 0, 0, 0, true);
        y.first(0, 0, 7, 1, 0);
        due.is("3 0 at first", y.led(0, 0, 0), 0);
        due.yes("3 last kind and region", y.price(7, 3, 12));
        due.is("3 last kind and region", y.led(0, 0, 0), 12);
    }

    private static void homes() {
        DepositJudge x = new DepositJudge();
        due.is("4 region below", x.home(-1, 1, 0, 0, 0, true), -1);
        due.is("4 region above", x.home(4, 1, 0, 0, 0, true), -1);
        due.is("4 no tenants", x.home(0, 0, 0, 0, 0, true), -1);
        due.is("4 five tenants", x.home(0, 5, 0, 0, 0, true), -1);
        due.is("4 deposit below", x.home(0, 1, -1, 0, 0, true), -1);
        due.is("4 deposit above", x.home(0, 1, 1000000, 0, 0, true), -1);
        due.is("4 from below", x.home(0, 1, 0, -1, 0, true), -1);
        due.is("4 from above", x.home(0, 1, 0, 1000, 1000, true), -1);
        due.is("4 to above", x.home(0, 1, 0, 0, 1000, true), -1);
        due.is("4 to before from", x.home(0, 1, 0, 5, 4, true), -1);
        due.is("4 none yet", x.count(0), 0);
        due.is("4 least", x.home(0, 1, 0, 0, 0, true), 0);
        due.is("4 greatest", x.home(3, 4, 999999, 999, 999, false), 1);
        for (int h = 2; h < 6; h++) {
            due.is("4 home", x.home(h % 4, h % 4 + 1, 100 * h, h, 10 * h, true), h);
        }
        due.is("4 a seventh", x.home(0, 1, 0, 0, 0, true), -1);
        due.is("4 six", x.count(0), 6);
        due.is("4 deposit", x.judged(1, 0, 1), 999999);
        due.is("4 deposit", x.judged(5, 0, 1), 500);
        due.is("4 fourth tenant", x.judged(1, 0, 13), 249999);
        due.is("4 no second tenant", x.judged(0, 0, 11), -1);
    }

    private static void parts() {
        DepositJudge x = new DepositJudge();
        due.no("5 no home", x.part(0, 0, 1));
        x.home(0, 2, 100, 0, 1, true);
        due.is("5 1 at first", x.judged(0, 0, 10), 50);
        due.yes("5 part", x.part(0, 1, 3));
        due.is("5 by parts", x.judged(0, 0, 10), 25);
        due.is("5 by parts", x.judged(0, 0, 11), 75);
        due.yes("5 greatest", x.part(0, 0, 99));
        due.is("5 by parts", x.judged(0, 0, 10), 97);
        due.no("5 too great", x.part(0, 0, 100));
        due.no("5 below 0", x.part(0, 0, -1));
        due.no("5 no such tenant", x.part(0, 2, 1));
        due.no("5 no such tenant", x.part(0, -1, 1));
        due.no("5 no such home", x.part(1, 0, 1));
        due.no("5 no such home", x.part(-1, 0, 1));
        due.is("5 unchanged", x.judged(0, 0, 10), 97);
        due.yes("5 nothing", x.part(0, 0, 0));
        due.is("5 nothing", x.judged(0, 0, 10), 0);
    }

    private static void debts() {
        DepositJudge x = new DepositJudge();
        due.no("6 no home", x.owes(0, 0, 1));
        x.home(0, 1, 100000, 0, 1, true);
        due.is("6 0 at first", x.judged(0, 0, 0), 0);
        due.yes("6 rent", x.owes(0, 0, 1));
        due.is("6 rent", x.judged(0, 0, 0), 1);
        due.yes("6 bills", x.owes(0, 1, 20));
        due.is("6 bills", x.judged(0, 0, 0), 21);
        due.yes("6 keys", x.owes(0, 2, 300));
        due.is("6 keys", x.judged(0, 0, 0), 321);
        due.yes("6 in its place", x.owes(0, 1, 50));
        due.is("6 in its place", x.judged(0, 0, 0), 351);
        due.no("6 no such debt", x.owes(0, 3, 1));
        due.no("6 no such debt", x.owes(0, -1, 1));
        due.no("6 below 0", x.owes(0, 0, -1));
        due.no("6 too much", x.owes(0, 0, 1000000));
        due.no("6 no such home", x.owes(1, 0, 1));
        due.is("6 unchanged", x.judged(0, 0, 0), 351);
        for (int what = 0; what < 3; what++) {
            due.yes("6 greatest", x.owes(0, what, 999999));
        }
        due.is("6 not more than the deposit", x.judged(0, 0, 0), 100000);
        due.is("6 no awards", x.judged(0, 0, 3), 0);
    }
}
