import java.util.Random;

/** Random runs of calls, each answered by the class and by the plain model; the seeds are fixed. */
public final class RandomRunsTest {
    private static final int RUNS = 600;
    private static final int CALLS = 512;

    private final Random random;
    private final DepositJudge x = new DepositJudge();
    private final PlainModel model = new PlainModel();
    private final Due due;
    private final int run;
    private final int smallLists;
    private int calls = 0;

    private RandomRunsTest(int run, Due due) {
        this.run = run;
        this.due = due;
        random = new Random(run);
        smallLists = 3 + random.nextInt(4);
    }

    public static void main(String[] args) {
        Due due = new Due();
        for (int run = 0; run < RUNS; run++) {
            new RandomRunsTest(run, due).play();
            if (due.failed() > 20) {
                break;
            }
        }
        due.end();
    }

    private void play() {
        int before = due.failed();
        while (calls < CALLS && due.failed() == before) {
            step(random.nextInt(100));
        }
    }

    private void is(String call, int got, int want) {
        calls++;
        due.is("run " + run + ", call " + calls + ": " + call, got, want);
    }

    private void is(String call, boolean got, boolean want) {
        is(call, got ? 1 : 0, want ? 1 : 0);
    }

    /** Mostly from 0 to most - 1, sometimes just beyond, seldom anything. */
    private int near(int most) {
        int kind = random.nextInt(60);
        if (kind == 0) return -1;
        if (kind == 1) return most;
        if (kind == 2) return random.nextInt();
        return random.nextInt(most);
    }

    private int pence(int most) {
        int kind = random.nextInt(8);
        return kind == 0 ? near(most) : kind == 1 ? most - 1 - near(3) : near(Math.min(most, 3000));
    }

    private int homeNumber() {
        return near(Math.max(1, model.homes.size()));
    }

    private int day() {
        return random.nextInt(4) == 0 ? near(10000) : near(40);
    }

    private int thingNumber(int h) {
        return near(model.isHome(h) ? Math.max(1, model.homes.get(h).first.size()) : 2);
    }

    private int claimNumber() {
        return near(Math.max(1, model.claims.size()));
    }

    private void step(int what) {
        if (what < 4) {
            prices();
        } else if (what < 7) {
            homes();
        } else if (what < 22) {
            lists();
        } else if (what < 27) {
            lawStep();
        } else if (what < 45) {
            things();
        } else if (what < 75) {
            claims();
        } else if (what < 85) {
            judges();
        } else if (what < 93) {
            pictures();
        } else {
            others();
        }
    }

    private void prices() {
        int kind = random.nextInt(2) == 0 ? near(8) : near(3);
        int months = random.nextBoolean() ? near(362) : near(60);
        int region = near(4);
        int pence = random.nextBoolean() ? near(100000) : near(2000);
        is("life " + kind + " " + months, x.life(kind, months), model.life(kind, months));
        is("price " + kind + " " + region + " " + pence, x.price(kind, region, pence), model.price(kind, region, pence));
    }

    private void homes() {
        int region = near(4);
        int tenants = 1 + near(4);
        int deposit = random.nextInt(3) == 0 ? 999999 : pence(1000000);
        int from = random.nextInt(3) == 0 ? near(1000) : near(20);
        int to = from + near(50);
        boolean kept = random.nextBoolean();
        is("home " + region + " " + tenants + " " + deposit + " " + from + " " + to + " " + kept,
                x.home(region, tenants, deposit, from, to, kept), model.home(region, tenants, deposit, from, to, kept));
        int h = homeNumber();
        int tenant = near(4);
        int n = random.nextInt(3) == 0 ? 0 : near(random.nextBoolean() ? 100 : 5);
        is("part " + h + " " + tenant + " " + n, x.part(h, tenant, n), model.part(h, tenant, n));
        int debt = near(3);
        int owed = pence(1000000);
        is("owes " + h + " " + debt + " " + owed, x.owes(h, debt, owed), model.owes(h, debt, owed));
    }

    private void lists() {
        int h = homeNumber();
        int room = random.nextInt(10) == 0 ? near(10) : random.nextInt(2);
        int kind = random.nextInt(10) == 0 ? near(8) : random.nextInt(2);
        int state = 1 + near(9);
        int age = random.nextBoolean() ? near(361) : near(30);
        boolean full = model.isHome(h) && model.homes.get(h).first.size() >= smallLists;
        boolean fullAtLast = model.isHome(h) && model.homes.get(h).last.size() >= smallLists;
        if (random.nextBoolean()) {
            if (!full) {
                is("first " + h + " " + room + " " + kind + " " + state + " " + age,
                        x.first(h, room, kind, state, age), model.first(h, room, kind, state, age));
            }
        } else if (!fullAtLast) {
            is("last " + h + " " + room + " " + kind + " " + state,
                    x.last(h, room, kind, state), model.last(h, room, kind, state));
        }
    }

    private void lawStep() {
        String text = new RandomLaw(random).text();
        if (text.length() > 230) {
            text = text.substring(0, 200);
        }
        for (int at = 0; at < text.length(); at += 20) {
            int[] w = new int[5];
            for (int k = 0; k < 5; k++) {
                w[k] = Due.word(text, at + 4 * k);
            }
            is("feed", x.feed(w[0], w[1], w[2], w[3], w[4]), model.feed(w));
        }
        int n = random.nextInt(30) == 0 ? near(210) : text.length();
        is("law " + n + " of " + text, x.law(n), model.law(n));
        is("count 2", x.count(2), model.count(2));
    }

    private void things() {
        int h = homeNumber();
        int i = thingNumber(h);
        int what = near(5);
        is("thing " + h + " " + i + " " + what, x.thing(h, i, what), model.thing(h, i, what));
        is("isNew " + h + " " + i, x.isNew(h, i), model.isNew(h, i));
        int years = near(31);
        is("led " + h + " " + i + " " + years, x.led(h, i, years), model.led(h, i, years));
        int h2 = homeNumber();
        what = near(2);
        is("like " + h2 + " " + what, x.like(h2, what), model.like(h2, what));
    }

    private void claims() {
        int c = claimNumber();
        int day = day();
        int kind = random.nextInt(7);
        if (kind == 0) {
            int h = homeNumber();
            int i = thingNumber(h);
            int cause = near(10);
            int evidence = near(8);
            is("claim " + h + " " + i + " " + cause + " " + evidence + " " + day,
                    x.claim(h, i, cause, evidence, day), model.claim(h, i, cause, evidence, day));
        } else if (kind == 1) {
            int pence = pence(1000000);
            is("agree " + c + " " + pence, x.agree(c, pence), model.agree(c, pence));
        } else if (kind == 2) {
            boolean proof = random.nextBoolean();
            is("answer " + c + " " + day + " " + proof, x.answer(c, day, proof), model.answer(c, day, proof));
        } else if (kind < 5) {
            is("award " + c + " " + day + " 0", x.award(c, day, 0), model.award(c, day, 0));
            is("award " + c + " " + day + " 1", x.award(c, day, 1), model.award(c, day, 1));
        } else if (kind == 5) {
            int h = homeNumber();
            int what = random.nextBoolean() ? near(5) : 10 + near(4);
            is("judged " + h + " " + day + " " + what, x.judged(h, day, what), model.judged(h, day, what));
        } else {
            int k = near(8);
            is("byKind " + k + " " + day, x.byKind(k, day), model.byKind(k, day));
            checkShares(day);
        }
    }

    private void checkShares(int day) {
        int h = homeNumber();
        int[] w = new int[5];
        for (int t = 0; t < 4; t++) {
            w[t] = model.judged(h, Math.abs(day % 10000), 10 + t) + (random.nextInt(12) == 0 ? 1 : 0);
        }
        int n = random.nextInt(3) == 0 ? near(5) : model.isHome(h) ? model.homes.get(h).tenants : 1;
        if (random.nextInt(6) != 0) {
            is("feed", x.feed(w[0], w[1], w[2], w[3], w[4]), model.feed(w));
        }
        is("check " + h + " " + day + " " + n, x.check(h, day, n), model.check(h, day, n));
        is("count 3", x.count(3), model.count(3));
    }

    private void judges() {
        int h = homeNumber();
        int judge = near(6);
        int kind = random.nextInt(6);
        if (kind == 0) {
            boolean is = random.nextInt(4) != 0;
            is("kin " + judge + " " + h + " " + is, x.kin(judge, h, is), model.kin(judge, h, is));
        } else if (kind == 1) {
            int seed = near(65536);
            if (random.nextInt(4) == 0) is("seed " + seed, x.seed(seed), model.seed(seed));
            is("draw " + h, x.draw(h), model.draw(h));
        } else if (kind == 2) {
            int other = near(6);
            int byA = near(random.nextBoolean() ? 10000 : 5);
            int byB = near(random.nextBoolean() ? 10000 : 5);
            is("twice " + judge + " " + other, x.twice(judge, other, byA, byB), model.twice(judge, other, byA, byB));
        } else if (kind == 3) {
            int what = near(4);
            is("spread " + judge + " " + what, x.spread(judge, what), model.spread(judge, what));
        } else if (kind == 4) {
            boolean owner = random.nextBoolean();
            int pence = pence(1000000);
            is("offer " + h + " " + owner + " " + pence, x.offer(h, owner, pence), model.offer(h, owner, pence));
        } else {
            is("met " + h, x.met(h), model.met(h));
        }
    }

    private void pictures() {
        int most = 2 + random.nextInt(10);
        int a = near(most);
        int b = random.nextInt(3) == 0 ? 10 : near(most);
        int days = random.nextBoolean() ? near(1000) : -near(1000);
        if (random.nextInt(4) == 0) {
            int c = a;
            a = b;
            b = c;
        }
        if (random.nextInt(3) == 0) {
            is("fact " + a + " " + b + " " + days, x.fact(a, b, days), model.fact(a, b, days));
        }
        int what = near(2);
        is("dated " + a + " " + what, x.dated(a, what), model.dated(a, what));
        int wrong = near(4) - 1;
        is("wrong " + wrong, x.wrong(wrong), model.wrong(wrong));
    }

    private void others() {
        int kind = random.nextInt(12);
        if (kind == 0) {
            is("keep", x.keep(), model.keep());
        } else if (kind == 1) {
            is("undo", x.undo(), model.undo());
        } else {
            int what = near(62);
            is("count " + what, x.count(what), model.count(what));
        }
    }
}
