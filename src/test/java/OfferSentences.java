/** The sentences of the terms about offers, judges, doubles, like homes, pictures, and what is kept. */
final class OfferSentences {
    private static final int NO_BOUND = -100000;

    private final Sentences doc;

    OfferSentences(Sentences doc) {
        this.doc = doc;
    }

    void run() {
        offers();
        judges();
        like();
        pictures();
        rest();
    }

    private void offers() {
        doc.term("OFFERS: of the owner the least, of the TENANTS the most that is to be paid (0 to 999999),", this::leastAndMost);
        doc.term("told shut;", this::toldShut);
        doc.term("when both are there, they MEET if the owner's is not above the TENANTS':", this::meet);
        doc.term("the middle, rounded down;", this::middle);
        doc.term("else nothing is told of them, and both fall.", this::fall);
    }

    private void judges() {
        doc.term("JUDGES 0 to 5;", this::sixJudges);
        doc.term("KIN of HOMES.", this::kinOfHomes);
        doc.term("DRAWN for a HOME: X = (25173 X + 13849) modulo 65536", this::drawn);
        doc.term("(X is THE SEED at first, 1)", this::seedAtFirst);
        doc.term("till JUDGE X modulo 6 is no KIN of it", this::noKin);
        doc.term("(all are: none, X stays).", this::allAreKin);
        doc.term("DOUBLES (40 at most):", this::fortyDoubles);
        doc.term("what two different JUDGES award for one case (0 to 9999 each).", this::twoDifferent);
        doc.term("SPREAD of a JUDGE: of its DOUBLES the differences (without sign), together, through how many;", this::spread);
        doc.term("LEANS: by how much its are more, together, through how many.", this::leans);
    }

    private void like() {
        doc.term("LIKE a HOME: of the other ones that with least distance:", this::leastDistance);
        doc.term("for each KIND the difference of how many THINGS of its FIRST LISTS are worse or gone, times 10,", this::byKinds);
        doc.term("and the months' difference through 12 (rounded down):", this::byMonths);
        doc.term("the lowest of like ones.", this::lowestLike);
    }

    private void pictures() {
        doc.term("PICTURES 0 to 9 and DAYS:", this::tenPictures);
        doc.term("FACTS (30 at most):", this::thirtyFacts);
        doc.term("one picture is at least so many days (-999 to 999) behind another one;", this::atLeast);
        doc.term("one of the two may be 10: DAY 0 itself.", this::dayZero);
        doc.term("DATED: the earliest and the latest DAY of a picture that can be by all FACTS that are not WRONG:", this::dated);
        doc.term("a FACT is WRONG if it can't be with those ahead of it that are not.", this::wrong);
    }

    private void rest() {
        doc.term("LED: WORTH of a THING after so many years (0 to 30) from FROM on.", this::led);
        doc.term("BY KIND: AWARDS on a DAY of all CLAIMS of that KIND, together.", this::byKind);
        doc.term("KEPT: CLAIMS,", this::keptClaims);
        doc.term("ANSWERS,", this::keptAnswers);
        doc.term("AGREED, OFFERS", this::keptAgreed);
        doc.term("OFFERS, X;", this::keptOffersAndX);
        doc.term("UNDONE: as they were KEPT last.", this::keptLast);
        doc.term("CHECK of a HOME on a DAY: what each TENANT gets BACK: right, or the first number that is not so.", this::check);
        doc.term("All memory is the scheme's own.", this::ownMemory);
        doc.term("The constants: `NONE = -1`: There is none.", () -> doc.is("NONE", DepositJudge.NONE, -1));
    }

    private void leastAndMost() {
        doc.range("offer of the owner", 0, 999999, pence -> Cases.withHome().offer(0, true, pence) == 0);
        doc.range("offer of the tenants", 0, 999999, pence -> Cases.withHome().offer(0, false, pence) == 0);
        doc.is("owner 0, tenants 999999", met(0, 999999), 499999);
        doc.is("owner 999999, tenants 0", met(999999, 0), -3);
    }

    private static int met(int owner, int tenants) {
        DepositJudge x = Cases.withHome();
        x.offer(0, true, owner);
        x.offer(0, false, tenants);
        return x.met(0);
    }

    private void toldShut() {
        for (int pence : new int[] {0, 5, 999999}) {
            DepositJudge x = Cases.withHome();
            doc.is("nothing of the owner's " + pence, x.offer(0, true, pence), 0);
            doc.is("one lacks", x.met(0), -2);
            DepositJudge y = Cases.withHome();
            doc.is("nothing of the tenants' " + pence, y.offer(0, false, pence), 0);
            doc.is("one lacks", y.met(0), -2);
        }
    }

    private void meet() {
        doc.is("owner a penny below", met(99, 100), 99);
        doc.is("owner as much", met(100, 100), 100);
        doc.is("owner a penny above", met(101, 100), -3);
        doc.is("both 0", met(0, 0), 0);
        doc.is("both most", met(999999, 999999), 999999);
    }

    private void middle() {
        doc.is("0 and 1", met(0, 1), 0);
        doc.is("5 and 10", met(5, 10), 7);
        doc.is("5 and 9", met(5, 9), 7);
        doc.is("999998 and 999999", met(999998, 999999), 999998);
    }

    private void fall() {
        DepositJudge x = Cases.withHomes(2);
        x.offer(1, true, 3);
        x.offer(1, false, 5);
        x.offer(0, true, 11);
        x.offer(0, false, 10);
        doc.is("they do not meet", x.met(0), -3);
        doc.is("both fell", x.met(0), -2);
        doc.is("the owner's alone", x.offer(0, true, 1), 0);
        doc.is("the tenants' is lacking", x.met(0), -2);
        doc.is("the tenants' again", x.offer(0, false, 1), 1);
        doc.is("they meet", x.met(0), 1);
        doc.is("another home's stay", x.met(1), 4);
        DepositJudge y = Cases.withHome();
        y.offer(0, true, 11);
        y.offer(0, false, 10);
        y.met(0);
        doc.is("the tenants' alone", y.offer(0, false, 1), 0);
    }

    private void sixJudges() {
        doc.range("kin, judge", 0, 5, judge -> Cases.withHome().kin(judge, 0, true));
        doc.range("twice, first judge", 0, 5, judge -> new DepositJudge().twice(judge, judge == 3 ? 2 : 3, 1, 1) == 1);
        doc.range("twice, second judge", 0, 5, judge -> new DepositJudge().twice(judge == 3 ? 2 : 3, judge, 1, 1) == 1);
        DepositJudge x = new DepositJudge();
        x.twice(0, 5, 1, 1);
        doc.range("spread, judge", 0, 5, judge -> x.spread(judge, 0) == 0 || judge > 0 && judge < 5);
        boolean[] seen = new boolean[6];
        DepositJudge y = Cases.withHome();
        for (int k = 0; k < 100; k++) {
            int judge = y.draw(0);
            doc.yes("drawn is a judge", judge >= 0 && judge < 6);
            seen[judge] = true;
        }
        for (int judge = 0; judge < 6; judge++) {
            doc.yes("drawn some time: " + judge, seen[judge]);
        }
    }

    private void kinOfHomes() {
        DepositJudge x = Cases.withHomes(6);
        for (int judge = 0; judge < 6; judge++) {
            for (int h = 0; h < 6; h++) {
                doc.yes("kin", x.kin(judge, h, judge == h) == (judge == h));
            }
        }
        for (int judge = 0; judge < 6; judge++) {
            for (int h = 0; h < 6; h++) {
                doc.no("it is so", x.kin(judge, h, judge == h));
            }
        }
    }

    private static int next(int x) {
        return (int) ((25173L * x + 13849) % 65536);
    }

    private void drawn() {
        DepositJudge x = Cases.withHome();
        for (int seed = 0; seed < 65536; seed++) {
            if (seed % 160 == 0) {
                x = Cases.withHome();
            }
            x.seed(seed);
            int judge = x.draw(0);
            int now = x.count(6);
            if (now != next(seed) || judge != next(seed) % 6) {
                doc.is("drawn from " + seed, now, next(seed));
                doc.is("judge from " + seed, judge, next(seed) % 6);
            }
        }
        x = Cases.withHome();
        int want = 1;
        for (int k = 0; k < 200; k++) {
            want = next(want);
            doc.is("in a row", x.draw(0), want % 6);
            doc.is("X", x.count(6), want);
        }
    }

    private void seedAtFirst() {
        DepositJudge x = Cases.withHome();
        doc.is("X", x.count(6), 1);
        doc.is("drawn", x.draw(0), 39022 % 6);
        doc.is("X then", x.count(6), 39022);
    }

    private void noKin() {
        for (int kin = 0; kin < 63; kin++) {
            DepositJudge x = Cases.withHomes(2);
            for (int judge = 0; judge < 6; judge++) {
                x.kin(judge, 0, (kin >> judge & 1) != 0);
                x.kin(judge, 1, (kin >> judge & 1) == 0);
            }
            int want = 1;
            for (int k = 0; k < 20; k++) {
                do {
                    want = next(want);
                } while ((kin >> want % 6 & 1) != 0);
                doc.is("drawn with kin " + kin, x.draw(0), want % 6);
                doc.is("X with kin " + kin, x.count(6), want);
            }
        }
    }

    private void allAreKin() {
        DepositJudge x = Cases.withHomes(2);
        for (int judge = 0; judge < 6; judge++) {
            x.kin(judge, 0, true);
        }
        x.seed(4711);
        doc.is("none", x.draw(0), -2);
        doc.is("X stays", x.count(6), 4711);
        doc.is("another home's", x.draw(1), next(4711) % 6);
        x.kin(3, 0, false);
        doc.is("the one that is no more", x.draw(0), 3);
    }

    private void fortyDoubles() {
        DepositJudge x = new DepositJudge();
        for (int k = 1; k <= 40; k++) {
            doc.is("double", x.twice(0, 1, 9999, 0), k);
        }
        doc.is("a 41st", x.twice(0, 1, 0, 0), -1);
        doc.is("how many", x.count(4), 40);
        doc.is("together through forty", x.spread(0, 0), 9999);
        doc.is("through", x.spread(0, 1), 1);
    }

    private void twoDifferent() {
        for (int judge = 0; judge < 6; judge++) {
            doc.is("one twice", new DepositJudge().twice(judge, judge, 1, 2), -1);
        }
        doc.range("twice, by the first", 0, 9999, pence -> new DepositJudge().twice(0, 1, pence, 5) == 1);
        doc.range("twice, by the second", 0, 9999, pence -> new DepositJudge().twice(0, 1, 5, pence) == 1);
    }

    private void spread(DepositJudge x, int judge, int above, int below) {
        doc.is("judge " + judge + ", above", x.spread(judge, 0), above);
        doc.is("judge " + judge + ", below", x.spread(judge, 1), below);
    }

    private void spread() {
        DepositJudge x = new DepositJudge();
        x.twice(0, 1, 10, 4);
        spread(x, 0, 6, 1);
        spread(x, 1, 6, 1);
        x.twice(0, 1, 4, 10);
        spread(x, 0, 6, 1);
        spread(x, 1, 6, 1);
        x.twice(2, 0, 5, 5);
        spread(x, 0, 4, 1);
        spread(x, 2, 0, 1);
        x.twice(2, 1, 0, 9999);
        spread(x, 1, 10011 / 3, 1);
        spread(x, 2, 9999, 2);
        x.twice(3, 0, 1, 3);
        spread(x, 0, 7, 2);
        x.twice(4, 5, 2, 0);
        x.twice(4, 5, 0, 1);
        x.twice(4, 5, 7, 7);
        spread(x, 4, 1, 1);
        leans(x, 4, 1, 3);
    }

    private void leans(DepositJudge x, int judge, int above, int below) {
        doc.is("judge " + judge + ", above", x.spread(judge, 2), above);
        doc.is("judge " + judge + ", below", x.spread(judge, 3), below);
    }

    private void leans() {
        DepositJudge x = new DepositJudge();
        x.twice(0, 1, 10, 4);
        leans(x, 0, 6, 1);
        leans(x, 1, -6, 1);
        x.twice(1, 0, 8, 5);
        leans(x, 0, 3, 2);
        leans(x, 1, -3, 2);
        x.twice(0, 1, 1, 4);
        leans(x, 0, 0, 1);
        leans(x, 1, 0, 1);
        x.twice(2, 0, 0, 9999);
        leans(x, 2, -9999, 1);
        leans(x, 0, 9999, 4);
        x.twice(2, 3, 5, 0);
        leans(x, 2, -4997, 1);
    }

    private void like(DepositJudge x, int h, int which, int distance) {
        doc.is("like " + h, x.like(h, 0), which);
        doc.is("distance of " + h, x.like(h, 1), distance);
    }

    private static DepositJudge monthsOf(int... months) {
        DepositJudge x = new DepositJudge();
        for (int many : months) {
            x.home(0, 1, 0, 0, many, true);
        }
        return x;
    }

    private void leastDistance() {
        DepositJudge x = monthsOf(0, 120, 36, 72, 999, 600);
        like(x, 0, 2, 3);
        like(x, 1, 3, 4);
        like(x, 2, 0, 3);
        like(x, 3, 2, 3);
        like(x, 4, 5, 33);
        like(x, 5, 4, 33);
        doc.is("no other one", monthsOf(5).like(0, 0), -2);
        doc.is("no other one", monthsOf(5).like(0, 1), -2);
    }

    private void byKinds() {
        for (int kind = 0; kind < 8; kind++) {
            DepositJudge x = Cases.withHomes(2);
            x.first(0, 0, kind, 5, 0);
            like(x, 0, 1, 10);
            like(x, 1, 0, 10);
            x.last(0, 0, kind, 4);
            like(x, 0, 1, 10);
            x.last(0, 0, kind, 5);
            like(x, 0, 1, 0);
            x.first(1, 3, kind, 5, 0);
            x.first(1, 3, kind, 5, 0);
            x.first(1, 4, kind, 5, 0);
            like(x, 0, 1, 30);
            x.first(0, 9, (kind + 1) % 8, 5, 0);
            like(x, 0, 1, 40);
            like(x, 1, 0, 40);
            x.first(0, 9, kind, 1, 0);
            like(x, 1, 0, 30);
            x.last(1, 4, kind, 9);
            like(x, 1, 0, 20);
        }
        DepositJudge x = Cases.withHomes(2);
        for (int i = 0; i < 20; i++) {
            x.first(0, 0, 0, 5, 0);
            x.first(1, 0, 7, 5, 0);
        }
        like(x, 0, 1, 400);
        x.last(1, 0, 0, 9);
        like(x, 0, 1, 400);
    }

    private void byMonths() {
        for (int months : new int[] {0, 1, 11, 12, 13, 23, 24, 987, 988, 999}) {
            DepositJudge x = monthsOf(0, months);
            like(x, 0, 1, months / 12);
            like(x, 1, 0, months / 12);
        }
        DepositJudge x = new DepositJudge();
        x.home(0, 1, 0, 100, 130, true);
        x.home(0, 1, 0, 500, 541, true);
        like(x, 0, 1, 0);
        x.home(0, 1, 0, 500, 542, true);
        doc.is("distance", x.like(2, 1), 0);
        DepositJudge y = new DepositJudge();
        y.home(0, 1, 0, 100, 130, true);
        y.home(0, 1, 0, 500, 542, true);
        like(y, 0, 1, 1);
    }

    private void lowestLike() {
        DepositJudge x = monthsOf(24, 24, 24, 24, 24, 24);
        like(x, 0, 1, 0);
        for (int h = 1; h < 6; h++) {
            like(x, h, 0, 0);
        }
        DepositJudge y = monthsOf(0, 48, 24);
        like(y, 2, 0, 2);
        DepositJudge z = monthsOf(48, 0, 24);
        like(z, 2, 0, 2);
    }

    private void dated(DepositJudge x, int picture, int earliest, int latest) {
        doc.is("earliest of " + picture, x.dated(picture, 0), earliest);
        doc.is("latest of " + picture, x.dated(picture, 1), latest);
    }

    private void tenPictures() {
        doc.range("fact, a", 0, 10, a -> new DepositJudge().fact(a, a == 5 ? 4 : 5, 0) == 1);
        doc.range("fact, b", 0, 10, b -> new DepositJudge().fact(b == 5 ? 4 : 5, b, 0) == 1);
        for (int picture = 0; picture < 10; picture++) {
            DepositJudge x = new DepositJudge();
            x.fact(10, picture, 3);
            x.fact(picture, 10, -8);
            for (int p = 0; p < 10; p++) {
                dated(x, p, p == picture ? 3 : NO_BOUND, p == picture ? 8 : NO_BOUND);
            }
            dated(x, 10, NO_BOUND, NO_BOUND);
            dated(x, -1, NO_BOUND, NO_BOUND);
        }
    }

    private void thirtyFacts() {
        DepositJudge x = new DepositJudge();
        for (int k = 1; k <= 30; k++) {
            doc.is("fact", x.fact(10, 0, k), k);
        }
        doc.is("a 31st", x.fact(10, 0, 99), -1);
        doc.is("how many", x.count(5), 30);
        doc.is("the earliest by thirty", x.dated(0, 0), 30);
        DepositJudge y = new DepositJudge();
        for (int k = 1; k <= 30; k++) {
            doc.is("fact, right or wrong", y.fact(k % 2, 1 - k % 2, 1), k);
        }
        doc.is("a 31st", y.fact(5, 6, 0), -1);
        doc.is("wrong ones count", y.wrong(-1), 15);
    }

    private void atLeast() {
        doc.range("fact, days", -999, 999, days -> new DepositJudge().fact(0, 1, days) == 1);
        for (int days : new int[] {-999, -1, 0, 1, 999}) {
            DepositJudge x = new DepositJudge();
            x.fact(10, 0, 0);
            x.fact(0, 10, 0);
            x.fact(0, 1, days);
            dated(x, 0, 0, 0);
            dated(x, 1, days, NO_BOUND);
            x.fact(2, 0, days);
            dated(x, 2, NO_BOUND, -days);
        }
    }

    private void dayZero() {
        DepositJudge x = new DepositJudge();
        doc.is("behind day 0", x.fact(10, 4, 7), 1);
        doc.is("day 0 behind it", x.fact(4, 10, -9), 2);
        dated(x, 4, 7, 9);
        doc.is("both are day 0", x.fact(10, 10, 0), -1);
        doc.is("11 is none", x.fact(11, 4, 0), -1);
        doc.is("11 is none", x.fact(4, 11, 0), -1);
        DepositJudge y = new DepositJudge();
        y.fact(3, 10, 5);
        dated(y, 3, NO_BOUND, -5);
        y.fact(10, 3, -5);
        dated(y, 3, -5, -5);
        doc.is("nothing is wrong", y.wrong(-1), 0);
    }

    private void dated() {
        DepositJudge x = new DepositJudge();
        for (int p = 0; p < 9; p++) {
            x.fact(p, p + 1, 999);
        }
        dated(x, 9, NO_BOUND, NO_BOUND);
        x.fact(10, 0, 999);
        dated(x, 9, 9990, NO_BOUND);
        dated(x, 0, 999, NO_BOUND);
        x.fact(9, 10, -999);
        doc.is("one is wrong", x.wrong(-1), 1);
        dated(x, 9, 9990, NO_BOUND);
        DepositJudge y = new DepositJudge();
        for (int p = 0; p < 9; p++) {
            y.fact(p, p + 1, -999);
        }
        y.fact(9, 10, -999);
        dated(y, 0, NO_BOUND, 9990);
        y.fact(10, 5, 20);
        dated(y, 0, NO_BOUND, 9990);
        dated(y, 9, 20 - 4 * 999, 999);
        dated(y, 5, 20, 5 * 999);
        y.fact(5, 0, 30);
        dated(y, 0, 50, 9990);
        dated(y, 5, 20, 4995);
        y.fact(0, 10, -60);
        dated(y, 5, 20, 30);
        dated(y, 0, 50, 60);
    }

    private void wrong() {
        DepositJudge x = new DepositJudge();
        x.fact(0, 1, 3);
        x.fact(1, 0, -3);
        doc.is("just so", x.wrong(-1), 0);
        x.fact(1, 0, -2);
        doc.is("a day too many", x.wrong(-1), 1);
        doc.is("which", x.wrong(0), 2);
        x.fact(1, 0, -4);
        doc.is("by those that are not wrong", x.wrong(-1), 1);
        x.fact(10, 0, 5);
        x.fact(1, 10, -7);
        doc.is("by day 0", x.wrong(-1), 2);
        doc.is("which", x.wrong(1), 5);
        dated(x, 1, 8, NO_BOUND);
        x.fact(1, 10, -8);
        doc.is("just so", x.wrong(-1), 2);
        dated(x, 1, 8, 8);
        dated(x, 0, 5, 5);
        DepositJudge y = new DepositJudge();
        y.fact(0, 1, 10);
        y.fact(1, 0, 10);
        y.fact(1, 0, -15);
        y.fact(0, 1, 16);
        doc.is("a wrong one makes none wrong", y.wrong(-1), 2);
        doc.is("which", y.wrong(0), 1);
        doc.is("which", y.wrong(1), 3);
    }

    private void led() {
        DepositJudge x = new DepositJudge();
        x.life(0, 360);
        x.price(0, 0, 36000);
        x.home(0, 1, 0, 100, 700, true);
        x.first(0, 0, 0, 5, 0);
        x.first(0, 0, 0, 5, 30);
        doc.range("led, years", 0, 30, years -> x.led(0, 0, years) == 36000 - 1200 * years);
        for (int years = 0; years <= 30; years++) {
            doc.is("of age 0, years " + years, x.led(0, 0, years), 36000 - 1200 * years);
            doc.is("of age 30, years " + years, x.led(0, 1, years), Math.max(0, 33000 - 1200 * years));
        }
    }

    private void byKind() {
        DepositJudge x = new DepositJudge();
        for (int kind = 0; kind < 8; kind++) {
            x.price(kind, 0, 1000);
        }
        x.home(0, 1, 0, 0, 0, true);
        x.home(0, 1, 0, 0, 0, true);
        for (int kind = 0; kind < 8; kind++) {
            x.first(0, 0, kind, 5, 0);
            x.first(1, 0, kind, 5, 0);
            x.claim(0, kind, 0, 0, kind);
            x.claim(1, kind, 0, 0, 10 + kind);
            x.agree(2 * kind, 1 + kind);
            x.agree(2 * kind + 1, 100);
        }
        for (int kind = 0; kind < 8; kind++) {
            doc.is("on the day before, kind " + kind, x.byKind(kind, Math.max(0, kind - 1)), kind == 0 ? 1 : 0);
            doc.is("one, kind " + kind, x.byKind(kind, 9 + kind), 1 + kind);
            doc.is("both, kind " + kind, x.byKind(kind, 10 + kind), 101 + kind);
            doc.is("silent, kind " + kind, x.byKind(kind, 1000 + kind), 1100);
            doc.is("both silent, kind " + kind, x.byKind(kind, 1010 + kind), 2000);
        }
        DepositJudge y = Cases.withHomes(2);
        y.price(0, 0, 99999);
        for (int c = 0; c < 30; c++) {
            y.first(c % 2, 0, 0, 5, 0);
            y.claim(c % 2, c / 2, 0, 0, 0);
        }
        doc.is("thirty of the dearest", y.byKind(0, 9999), 2999970);
    }

    private void keptClaims() {
        DepositJudge x = Cases.claimed(4, 3);
        x.keep();
        x.claim(0, 1, 0, 0, 0);
        x.undo();
        doc.is("how many", x.count(1), 1);
        doc.is("the thing is free", x.claim(0, 1, 0, 0, 0), 1);
        doc.is("the other is not", x.claim(0, 0, 0, 0, 0), -2);
        DepositJudge y = Cases.court();
        y.keep();
        y.claim(0, 2, 5, 7, 50);
        y.undo();
        y.claim(0, 1, 4, 1, 10);
        Due.law(y, "d0(c=4&v=1&r=1)");
        doc.is("the new one's own day", y.award(0, 10, 1), 4);
        doc.is("the new one's own letters", y.award(0, 11, 1), 3);
    }

    private void keptAnswers() {
        DepositJudge x = Cases.claimed(0, 7);
        x.keep();
        x.answer(0, 12, true);
        x.undo();
        doc.is("none again", x.award(0, 12, 1), 4);
        x.answer(0, 13, true);
        x.keep();
        x.answer(0, 20, false);
        x.undo();
        Due.law(x, "b(1=1)");
        doc.is("its day", x.award(0, 12, 1), 4);
        doc.is("its proof", x.award(0, 13, 1), 6);
    }

    private void keptAgreed() {
        DepositJudge x = Cases.claimed(0, 0);
        x.keep();
        x.agree(0, 70);
        x.undo();
        doc.is("nothing again", x.award(0, 10, 0), 0);
        x.agree(0, 80);
        x.keep();
        x.agree(0, 90);
        x.undo();
        doc.is("so much", x.award(0, 10, 0), 80);
    }

    private void keptOffersAndX() {
        DepositJudge x = Cases.withHomes(6);
        x.offer(5, true, 10);
        x.offer(4, false, 20);
        x.seed(500);
        x.keep();
        x.offer(5, true, 11);
        x.offer(5, false, 11);
        x.offer(4, true, 21);
        x.offer(0, true, 1);
        x.met(4);
        x.draw(0);
        x.undo();
        doc.is("X", x.count(6), 500);
        doc.is("the tenants' is lacking again", x.met(5), -2);
        doc.is("the owner's is there", x.offer(5, false, 30), 1);
        doc.is("as it was", x.met(5), 20);
        doc.is("the tenants' is there", x.offer(4, true, 10), 1);
        doc.is("as it was", x.met(4), 15);
        doc.is("there was none", x.offer(0, false, 1), 0);
        DepositJudge y = Cases.withHome();
        y.offer(0, true, 9);
        y.offer(0, false, 8);
        y.keep();
        y.met(0);
        y.undo();
        doc.is("fallen ones are back", y.met(0), -3);
        y.keep();
        y.seed(3);
        y.undo();
        doc.is("X by a seed", y.count(6), 1);
    }

    private void keptLast() {
        DepositJudge x = Cases.claimed(0, 0);
        x.agree(0, 1);
        x.keep();
        x.agree(0, 2);
        x.keep();
        x.agree(0, 3);
        doc.yes("undone", x.undo());
        doc.is("as kept last", x.award(0, 10, 0), 2);
        x.agree(0, 4);
        doc.yes("undone again", x.undo());
        doc.is("as kept last", x.award(0, 10, 0), 2);
    }

    private void check() {
        DepositJudge x = new DepositJudge();
        x.home(0, 4, 103, 0, 0, true);
        int[] right = {26, 26, 26, 25};
        x.feed(26, 26, 26, 25, 0);
        doc.is("right", x.check(0, 0, 4), -1);
        for (int t = 0; t < 4; t++) {
            for (int other : new int[] {right[t] - 1, right[t] + 1, -1, right[t] + (1 << 24), right[t] | 1 << 31}) {
                int[] n = right.clone();
                n[t] = other;
                n[3] = t < 3 ? 0 : n[3];
                x.feed(n[0], n[1], n[2], n[3], 0);
                doc.is("number " + t + " is " + other, x.check(0, 0, 4), t);
            }
        }
    }

    private void ownMemory() {
        DepositJudge x = Cases.claimed(0, 0);
        DepositJudge y = new DepositJudge();
        Due.law(x, "f1(1=1)");
        x.feed(1, 2, 3, 4, 5);
        x.twice(0, 1, 2, 3);
        x.fact(10, 0, 1);
        x.seed(9);
        x.offer(0, true, 1);
        x.keep();
        for (int what = 0; what < 6; what++) {
            doc.is("count " + what + " of another object", y.count(what), 0);
        }
        doc.is("X of another object", y.count(6), 1);
        doc.no("nothing was kept there", y.undo());
        y.home(0, 1, 500, 0, 0, true);
        y.first(0, 0, 0, 5, 0);
        doc.is("prices of another object", y.led(0, 0, 0), 0);
        doc.is("law of another object", y.thing(0, 0, 2), 0);
        doc.is("offers of another object", y.offer(0, false, 1), 0);
        doc.is("pictures of another object", y.dated(0, 0), NO_BOUND);
        doc.is("doubles of another object", y.spread(0, 0), -1000000);
    }
}
