/** Promises 14 to 17 and 30: claims, what is agreed, answers, awards, awards by kind. */
public final class ClaimsTest {
    private static final Due due = new Due();

    public static void main(String[] args) {
        claims();
        thirtyClaims();
        agreed();
        answers();
        refusals();
        silence();
        burdenOfTenants();
        burdenOfOwner();
        hundredths();
        lawSeesTheClaim();
        byKind();
        due.end();
    }

    /** Three things of kind 0 worth 1000, 5 at first: gone, two lower, as it was; one of kind 1, gone. */
    private static DepositJudge court() {
        DepositJudge x = new DepositJudge();
        x.price(0, 0, 1000);
        x.price(1, 0, 333);
        x.home(0, 2, 5000, 0, 0, true);
        x.first(0, 0, 0, 5, 0);
        x.first(0, 1, 0, 5, 0);
        x.first(0, 2, 0, 5, 0);
        x.first(0, 3, 1, 7, 0);
        x.last(0, 1, 0, 3);
        x.last(0, 2, 0, 5);
        return x;
    }

    private static void award(String name, DepositJudge x, int claim, int day, int pence, int reason) {
        due.is("17 " + name + ", pence", x.award(claim, day, 0), pence);
        due.is("17 " + name + ", reason", x.award(claim, day, 1), reason);
    }

    private static void claims() {
        DepositJudge x = court();
        due.is("14 no such home", x.claim(1, 0, 0, 0, 0), -1);
        due.is("14 no such home", x.claim(-1, 0, 0, 0, 0), -1);
        due.is("14 no such thing", x.claim(0, 4, 0, 0, 0), -1);
        due.is("14 no such thing", x.claim(0, -1, 0, 0, 0), -1);
        due.is("14 cause above", x.claim(0, 0, 10, 0, 0), -1);
        due.is("14 cause below", x.claim(0, 0, -1, 0, 0), -1);
        due.is("14 evidence above", x.claim(0, 0, 0, 8, 0), -1);
        due.is("14 evidence below", x.claim(0, 0, 0, -1, 0), -1);
        due.is("14 day above", x.claim(0, 0, 0, 0, 10000), -1);
        due.is("14 day below", x.claim(0, 0, 0, 0, -1), -1);
        due.is("14 none yet", x.count(1), 0);
        due.is("14 claim", x.claim(0, 3, 9, 7, 9999), 0);
        due.is("14 claim", x.claim(0, 0, 0, 0, 0), 1);
        due.is("14 there is one", x.claim(0, 3, 1, 1, 1), -2);
        due.is("14 there is one", x.claim(0, 0, 1, 1, 1), -2);
        due.is("14 no such cause, claimed or not", x.claim(0, 0, 10, 1, 1), -1);
        due.is("14 two", x.count(1), 2);
        due.is("14 its home", x.count(30), 0);
    }

    private static void thirtyClaims() {
        DepositJudge x = new DepositJudge();
        x.home(0, 1, 0, 0, 0, true);
        x.home(0, 1, 0, 0, 0, true);
        for (int i = 0; i < 20; i++) {
            x.first(0, 0, 0, 1, 0);
            x.first(1, 0, 0, 1, 0);
        }
        for (int c = 0; c < 30; c++) {
            due.is("14 claim", x.claim(c % 2, c / 2, 0, 0, 0), c);
        }
        due.is("14 a 31st", x.claim(0, 19, 0, 0, 0), -1);
        due.is("14 there is one, thirty or not", x.claim(0, 0, 0, 0, 0), -2);
        due.is("14 thirty", x.count(1), 30);
        due.is("34 home of the last", x.count(59), 1);
        due.is("34 home of the last but one", x.count(58), 0);
        due.is("34 no claim", x.count(60), -1);
        due.yes("15 the last claim", x.agree(29, 1));
        due.no("15 no claim", x.agree(30, 1));
    }

    private static void agreed() {
        DepositJudge x = court();
        due.no("15 no claim yet", x.agree(0, 0));
        x.claim(0, 1, 0, 0, 0);
        due.yes("15 agreed", x.agree(0, 399));
        award("agreed in part", x, 0, 0, 399, 4);
        due.yes("15 agreed", x.agree(0, 400));
        award("agreed", x, 0, 0, 400, 2);
        due.yes("15 greatest", x.agree(0, 999999));
        award("not more than lost", x, 0, 0, 400, 2);
        due.no("15 too much", x.agree(0, 1000000));
        due.no("15 below 0", x.agree(0, -1));
        due.no("15 no such claim", x.agree(1, 5));
        due.no("15 no such claim", x.agree(-1, 5));
        award("unchanged", x, 0, 0, 400, 2);
        due.yes("15 less again", x.agree(0, 0));
        award("less again", x, 0, 0, 0, 4);
        x.claim(0, 2, 0, 0, 0);
        due.yes("15 of nothing lost", x.agree(1, 50));
        award("nothing lost", x, 1, 0, 0, 1);
    }

    private static void answers() {
        DepositJudge x = court();
        due.no("16 no claim yet", x.answer(0, 0, true));
        x.claim(0, 0, 0, 3, 10);
        due.no("16 ahead of the claim", x.answer(0, 9, false));
        due.no("16 day above", x.answer(0, 10000, false));
        due.no("16 day below", x.answer(0, -1, false));
        due.no("16 no such claim", x.answer(1, 10, false));
        due.no("16 no such claim", x.answer(-1, 10, false));
        award("no answer", x, 0, 10, 0, 4);
        due.yes("16 on the claim's day", x.answer(0, 10, false));
        award("answered", x, 0, 10, 1000, 7);
        due.yes("16 in place of it", x.answer(0, 20, false));
        award("not yet", x, 0, 19, 0, 4);
        award("answered", x, 0, 20, 1000, 7);
        due.yes("16 the last day", x.answer(0, 9999, false));
        award("answered on the last day", x, 0, 9999, 1000, 7);
        Due.law(x, "b(k=0)");
        x.answer(0, 12, true);
        award("with proof", x, 0, 12, 0, 6);
        x.answer(0, 12, false);
        award("without proof, in place of it", x, 0, 12, 1000, 5);
    }

    private static void refusals() {
        DepositJudge x = court();
        due.is("17 no claim", x.award(0, 0, 0), -1);
        x.claim(0, 0, 0, 0, 10);
        due.is("17 not made by then", x.award(0, 9, 0), -2);
        due.is("17 not made by then", x.award(0, 9, 1), -2);
        due.is("17 not made by then", x.award(0, 0, 0), -2);
        due.is("17 no such what", x.award(0, 10, 2), -1);
        due.is("17 no such what", x.award(0, 10, -1), -1);
        due.is("17 no such what, nor made", x.award(0, 9, 2), -1);
        due.is("17 day below", x.award(0, -1, 0), -1);
        due.is("17 day above", x.award(0, 10000, 0), -1);
        due.is("17 no such claim", x.award(1, 10, 0), -1);
        due.is("17 no such claim", x.award(-1, 10, 0), -1);
    }

    private static void silence() {
        DepositJudge x = court();
        x.claim(0, 0, 2, 0, 10);
        award("999 days without a law", x, 0, 1009, 0, 4);
        award("more", x, 0, 1010, 1000, 3);
        Due.law(x, "d5(c=2)");
        x.agree(0, 7);
        award("five days", x, 0, 15, 7, 4);
        award("six days", x, 0, 16, 1000, 3);
        x.answer(0, 30, false);
        award("an answer that comes later", x, 0, 29, 1000, 3);
        award("it came", x, 0, 30, 7, 8);
        Due.law(x, "d0(c=2)");
        award("the same day", x, 0, 10, 7, 4);
        award("the next day", x, 0, 11, 1000, 3);
        Due.law(x, "d1000(c=2)");
        x.answer(0, 9999, false);
        award("the bound", x, 0, 1009, 7, 4);
        award("beyond the bound", x, 0, 1010, 1000, 3);
        Due.law(x, "d0-3(c=2)");
        award("the lower bound", x, 0, 10, 7, 4);
        award("beyond the lower bound", x, 0, 11, 1000, 3);
        Due.law(x, "d5(c=3)");
        award("no clause that holds", x, 0, 1009, 7, 4);
    }

    private static void burdenOfTenants() {
        DepositJudge x = court();
        x.claim(0, 0, 2, 0, 0);
        x.answer(0, 0, false);
        award("the owner must prove", x, 0, 0, 0, 8);
        Due.law(x, "p30(c=2);b(c=1);b(c=2)");
        award("the tenants must", x, 0, 0, 300, 5);
        x.agree(0, 301);
        award("not less than agreed", x, 0, 0, 301, 5);
        x.answer(0, 0, true);
        award("proved", x, 0, 0, 301, 6);
        Due.law(x, "p30(c=2);b(c=1)");
        award("the owner must", x, 0, 0, 301, 8);
    }

    private static void burdenOfOwner() {
        int[] reasons = {8, 8, 8, 7, 8, 7, 8, 7};
        for (int evidence = 0; evidence < 8; evidence++) {
            DepositJudge x = court();
            Due.law(x, "p50(k=0)");
            x.claim(0, 1, 0, evidence, 3);
            x.agree(0, 33);
            x.answer(0, 4, evidence % 3 == 0);
            award("evidence " + evidence, x, 0, 4, reasons[evidence] == 7 ? 200 : 33, reasons[evidence]);
            x.agree(0, 222);
            award("evidence " + evidence, x, 0, 4, 222, reasons[evidence]);
        }
    }

    private static void hundredths() {
        DepositJudge x = court();
        x.claim(0, 3, 0, 7, 0);
        x.answer(0, 0, false);
        award("all without a law", x, 0, 0, 333, 7);
        Due.law(x, "p33(k=1)");
        award("rounded down", x, 0, 0, 109, 7);
        Due.law(x, "p101(k=1)");
        award("the bound", x, 0, 0, 333, 7);
        Due.law(x, "p0-1(k=1)");
        award("the lower bound", x, 0, 0, 0, 7);
        Due.law(x, "p50(k=0)");
        award("no clause that holds", x, 0, 0, 333, 7);
        Due.law(x, "p1/0(k=1)");
        award("refused", x, 0, 0, 0, 7);
    }

    private static void lawSeesTheClaim() {
        DepositJudge x = court();
        x.claim(0, 1, 6, 5, 0);
        x.answer(0, 0, false);
        Due.law(x, "b(k=0&r=1&s=5&o=3&a=0&m=0&n=2&g=0&c=6&v=5);p[c*10+v](1=1)");
        award("all letters", x, 0, 0, 260, 5);
        Due.law(x, "f1(c=0&v=0);f2(c=6)");
        award("but in f", x, 0, 0, 200, 7);
    }

    private static void byKind() {
        DepositJudge x = court();
        x.home(0, 1, 0, 0, 0, true);
        x.first(1, 0, 0, 4, 60);
        due.is("30 none", x.byKind(0, 0), 0);
        x.claim(0, 0, 0, 0, 0);
        x.claim(0, 1, 0, 0, 5);
        x.claim(0, 3, 0, 0, 0);
        x.claim(1, 0, 0, 0, 7);
        x.agree(0, 100);
        x.agree(1, 999999);
        x.agree(2, 30);
        x.agree(3, 9);
        due.is("30 made by then", x.byKind(0, 0), 100);
        due.is("30 made by then", x.byKind(0, 4), 100);
        due.is("30 made by then", x.byKind(0, 5), 500);
        due.is("30 of all homes", x.byKind(0, 7), 509);
        due.is("30 silent too long", x.byKind(0, 1006), 1000 + 400 + 9);
        due.is("30 silent too long", x.byKind(0, 1007), 1000 + 400 + 500);
        due.is("30 of another kind", x.byKind(1, 0), 30);
        due.is("30 of a kind without any", x.byKind(7, 0), 0);
        due.is("30 no such kind", x.byKind(8, 0), -1);
        due.is("30 no such kind", x.byKind(-1, 0), -1);
        due.is("30 day below", x.byKind(0, -1), -1);
        due.is("30 day above", x.byKind(0, 10000), -1);
        due.is("30 the last day", x.byKind(1, 9999), 333);
    }
}
