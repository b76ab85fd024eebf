import java.util.Arrays;

/** The sentences of the terms about kinds, homes, things, how they are joined and what they are worth. */
final class ThingSentences {
    private final Sentences doc;

    ThingSentences(Sentences doc) {
        this.doc = doc;
    }

    void run() {
        doc.term("KINDS 0 to 7 of things", this::kinds);
        doc.term("a LIFE (1 to 360 months;", this::lives);
        doc.term("120 at first)", this::lifeAtFirst);
        doc.term("a PRICE in each REGION (0 to 3;", this::priceInEachRegion);
        doc.term("0 to 99999 pence;", this::prices);
        doc.term("0 at first). HOMES", this::priceAtFirst);
        doc.term("HOMES 0 to 5:", this::homes);
        doc.term("a REGION,", this::regions);
        doc.term("TENANTS (1 to 4) with", this::tenants);
        doc.term("PARTS (0 to 99;", this::parts);
        doc.term("1 at first), a DEPOSIT", this::partsAtFirst);
        doc.term("a DEPOSIT (0 to 999999 pence)", this::deposits);
        doc.term("MONTHS from, to (0 to 999;", this::months);
        doc.term("not below from)", this::notBelowFrom);
        doc.term("whether the DEPOSIT was KEPT as it must be", this::kept);
        doc.term("RENT, BILLS, KEYS owed (0 to 999999 each;", this::owed);
        doc.term("0 at first). ```text", this::owedAtFirst);
        doc.term("THINGS: in the FIRST LIST of a HOME (0 to 19):", this::firstList);
        doc.term("ROOM (0 to 9), KIND,", this::rooms);
        doc.term("STATE (1 to 9),", this::states);
        doc.term("AGE then (0 to 360 months)", this::ages);
        doc.term("in the LAST LIST (0 to 19): ROOM, KIND, STATE.", this::lastList);
        doc.term("JOINED are THINGS of one ROOM and KIND,", this::oneRoomAndKind);
        doc.term("one of the FIRST LIST to one of the LAST LIST at most,", this::oneToOne);
        doc.term("by which least is lost together:", this::leastLost);
        doc.term("by each two how much lower the STATE is at last (0 if it is not),", this::lower);
        doc.term("by each of the FIRST LIST that is not JOINED its STATE;", this::notJoined);
        doc.term("of like ones of most JOINED;", this::mostJoined);
        doc.term("of like ones the least row by THINGS of the FIRST LIST (what each is JOINED to;", this::leastRow);
        doc.term("to nothing behind all).", this::nothingBehindAll);
        doc.term("CHANGE of a THING of the FIRST LIST: 0 as it was, 1 worse, 2 gone, 3 better;", this::change);
        doc.term("NEW is one of the LAST LIST that is not JOINED.", this::isNew);
        doc.term("AGED is a THING as many months as its AGE and the HOME's months.", this::aged);
        doc.term("WORTH at an age: PRICE (of the HOME's REGION)", this::worthInRegion);
        doc.term("times LIFE less that age, through LIFE, rounded down", this::worth);
        doc.term("(0 from LIFE on).", this::worthFromLifeOn);
    }

    private void kinds() {
        doc.range("life, kind", 0, 7, kind -> new DepositJudge().life(kind, 1));
        doc.range("price, kind", 0, 7, kind -> new DepositJudge().price(kind, 0, 1));
        doc.range("first, kind", 0, 7, kind -> Cases.withHome().first(0, 0, kind, 1, 0) == 0);
        doc.range("last, kind", 0, 7, kind -> Cases.withHome().last(0, 0, kind, 1) == 0);
        doc.range("byKind, kind", 0, 7, kind -> new DepositJudge().byKind(kind, 0) == 0);
    }

    /** Worth of a thing of kind 0 that was new a number of years ago. */
    private static int after(int life, int years) {
        DepositJudge x = Cases.withHome();
        x.price(0, 0, 3600);
        x.life(0, life);
        x.first(0, 0, 0, 1, 0);
        return x.led(0, 0, years);
    }

    private void lives() {
        doc.range("life, months", 1, 360, months -> new DepositJudge().life(0, months));
        doc.is("worth with life 1", after(1, 0), 3600);
        doc.is("worth with life 1 a year on", after(1, 1), 0);
        doc.is("worth with life 360", after(360, 29), 120);
        doc.is("worth with life 0, refused", after(0, 1), 3240);
        doc.is("worth with life 361, refused", after(361, 1), 3240);
    }

    private void lifeAtFirst() {
        for (int kind = 0; kind < 8; kind++) {
            DepositJudge x = Cases.withHome();
            x.price(kind, 0, 1200);
            x.first(0, 0, kind, 1, 119);
            x.first(0, 0, kind, 1, 120);
            x.first(0, 0, kind, 1, 0);
            doc.is("119 months, kind " + kind, x.led(0, 0, 0), 10);
            doc.is("120 months, kind " + kind, x.led(0, 1, 0), 0);
            doc.is("a year, kind " + kind, x.led(0, 2, 1), 1080);
        }
    }

    private void priceInEachRegion() {
        doc.range("price, region", 0, 3, region -> new DepositJudge().price(0, region, 1));
        DepositJudge x = new DepositJudge();
        for (int region = 0; region < 4; region++) {
            x.home(region, 1, 0, 0, 0, true);
            for (int kind = 0; kind < 8; kind++) {
                x.first(region, 0, kind, 1, 0);
                x.price(kind, region, 1 + 100 * region + kind);
            }
        }
        for (int region = 0; region < 4; region++) {
            for (int kind = 0; kind < 8; kind++) {
                doc.is("kind " + kind + " in region " + region, x.led(region, kind, 0), 1 + 100 * region + kind);
            }
        }
    }

    private void prices() {
        doc.range("price, pence", 0, 99999, pence -> new DepositJudge().price(0, 0, pence));
        DepositJudge x = Cases.withHome();
        x.first(0, 0, 0, 1, 0);
        for (int pence : new int[] {99999, 0, 1, 99998}) {
            x.price(0, 0, pence);
            doc.is("worth at first", x.led(0, 0, 0), pence);
        }
    }

    private void priceAtFirst() {
        DepositJudge x = new DepositJudge();
        for (int region = 0; region < 4; region++) {
            x.home(region, 1, 0, 0, 0, true);
            for (int kind = 0; kind < 8; kind++) {
                x.first(region, 0, kind, 1, 0);
                doc.is("kind " + kind + " in region " + region, x.led(region, kind, 0), 0);
            }
        }
    }

    private void homes() {
        DepositJudge x = new DepositJudge();
        for (int h = 0; h < 6; h++) {
            doc.is("home", x.home(0, 1, 0, 0, 0, true), h);
        }
        doc.is("a seventh home", x.home(0, 1, 0, 0, 0, true), -1);
        doc.range("part, home", 0, 5, h -> x.part(h, 0, 1));
        doc.range("owes, home", 0, 5, h -> x.owes(h, 0, 1));
        doc.range("first, home", 0, 5, h -> x.first(h, 0, 0, 1, 0) == 0);
        doc.range("last, home", 0, 5, h -> x.last(h, 0, 0, 1) == 0);
        doc.range("thing, home", 0, 5, h -> x.thing(h, 0, 0) == 0);
        doc.range("isNew, home", 0, 5, h -> x.isNew(h, 0) == 0);
        doc.range("led, home", 0, 5, h -> x.led(h, 0, 0) == 0);
        doc.range("claim, home", 0, 5, h -> x.claim(h, 0, 0, 0, 0) >= 0);
        doc.range("judged, home", 0, 5, h -> x.judged(h, 0, 0) == 0);
        doc.range("offer, home", 0, 5, h -> x.offer(h, true, 0) == 0);
        doc.range("met, home", 0, 5, h -> x.met(h) == -2);
        doc.range("kin, home", 0, 5, h -> x.kin(0, h, true));
        doc.range("draw, home", 0, 5, h -> x.draw(h) > 0);
        doc.range("like, home", 0, 5, h -> x.like(h, 0) >= 0);
        doc.range("check, home", 0, 5, h -> x.check(h, 0, 0) == 0);
        doc.range("count of the first list, home", 0, 5, h -> x.count(10 + h) == 1);
        doc.range("count of the last list, home", 0, 5, h -> x.count(20 + h) == 1);
    }

    private void regions() {
        doc.range("home, region", 0, 3, region -> new DepositJudge().home(region, 1, 0, 0, 0, true) == 0);
        for (int region = 0; region < 4; region++) {
            DepositJudge x = new DepositJudge();
            x.home(region, 1, 100, 0, 0, false);
            Due.law(x, "t1(g=0);t2(g=1);t3(g=2);t4(g=3)");
            doc.is("penalty in region " + region, x.judged(0, 0, 2), 100 * (region + 1));
        }
    }

    private void tenants() {
        doc.range("home, tenants", 1, 4, tenants -> new DepositJudge().home(0, tenants, 0, 0, 0, true) == 0);
        for (int tenants = 1; tenants <= 4; tenants++) {
            DepositJudge x = new DepositJudge();
            x.home(0, tenants, 12, 0, 0, true);
            doc.range("part, tenant of " + tenants, 0, tenants - 1, t -> x.part(0, t, 1));
            doc.is("the last tenant of " + tenants, x.judged(0, 0, 9 + tenants), 12 / tenants);
            doc.is("one tenant more than " + tenants, x.judged(0, 0, 10 + tenants), -1);
        }
    }

    private void parts() {
        DepositJudge x = new DepositJudge();
        x.home(0, 2, 100, 0, 0, true);
        doc.range("part, n", 0, 99, n -> x.part(0, 0, n));
        doc.is("99 to 1", x.judged(0, 0, 10), 99);
        doc.is("1 to 99", x.judged(0, 0, 11), 1);
        x.part(0, 0, 0);
        doc.is("0 to 1", x.judged(0, 0, 10), 0);
        doc.is("1 to 0", x.judged(0, 0, 11), 100);
    }

    private void partsAtFirst() {
        for (int tenant = 0; tenant < 4; tenant++) {
            DepositJudge x = new DepositJudge();
            x.home(0, 4, 1200, 0, 0, true);
            x.part(0, tenant, 9);
            for (int t = 0; t < 4; t++) {
                doc.is("tenant " + t, x.judged(0, 0, 10 + t), t == tenant ? 900 : 100);
            }
        }
    }

    private void deposits() {
        doc.range("home, deposit", 0, 999999, pence -> new DepositJudge().home(0, 1, pence, 0, 0, true) == 0);
        DepositJudge x = new DepositJudge();
        x.home(0, 1, 999999, 0, 0, true);
        x.home(0, 1, 0, 0, 0, true);
        doc.is("all of it back", x.judged(0, 0, 1), 999999);
        doc.is("nothing of nothing", x.judged(1, 0, 1), 0);
    }

    private void months() {
        doc.range("home, from", 0, 999, from -> new DepositJudge().home(0, 1, 0, from, 999, true) == 0);
        doc.range("home, to", 0, 999, to -> new DepositJudge().home(0, 1, 0, 0, to, true) == 0);
        DepositJudge x = new DepositJudge();
        x.home(0, 1, 1, 0, 999, false);
        x.home(0, 1, 1, 999, 999, false);
        Due.law(x, "t3(m=999);t4(m=0)");
        doc.is("999 months", x.judged(0, 0, 2), 3);
        doc.is("no months", x.judged(1, 0, 2), 4);
    }

    private void notBelowFrom() {
        for (int from : new int[] {1, 5, 500, 999}) {
            DepositJudge x = new DepositJudge();
            doc.is("to a month before " + from, x.home(0, 1, 0, from, from - 1, true), -1);
            doc.is("to 0 from " + from, x.home(0, 1, 0, from, 0, true), -1);
            doc.is("from and to " + from, x.home(0, 1, 0, from, from, true), 0);
        }
    }

    private void kept() {
        DepositJudge x = new DepositJudge();
        x.home(0, 1, 50, 0, 0, true);
        x.home(0, 1, 50, 0, 0, false);
        Due.law(x, "t2(1=1)");
        doc.is("kept", x.judged(0, 0, 2), 0);
        doc.is("not kept", x.judged(1, 0, 2), 100);
    }

    private void owed() {
        for (int what = 0; what < 3; what++) {
            int owed = what;
            DepositJudge x = new DepositJudge();
            x.home(0, 1, 999999, 0, 0, true);
            doc.range("owes, pence of " + what, 0, 999999, pence -> x.owes(0, owed, pence));
            doc.is("the most of " + what, x.judged(0, 0, 0), 999999);
            x.owes(0, owed, 7);
            doc.is("less of " + what, x.judged(0, 0, 0), 7);
        }
        DepositJudge x = new DepositJudge();
        x.home(0, 1, 999999, 0, 0, true);
        x.owes(0, 0, 1);
        x.owes(0, 1, 10);
        x.owes(0, 2, 100);
        doc.is("each its own", x.judged(0, 0, 0), 111);
    }

    private void owedAtFirst() {
        DepositJudge x = new DepositJudge();
        x.home(0, 1, 999999, 0, 0, true);
        doc.is("nothing", x.judged(0, 9999, 0), 0);
        x.owes(0, 1, 5);
        doc.is("nothing but the bills", x.judged(0, 9999, 0), 5);
    }

    private void firstList() {
        DepositJudge x = Cases.withHomes(2);
        for (int i = 0; i < 20; i++) {
            doc.is("first", x.first(0, i % 10, i % 8, 1 + i % 9, i), i);
        }
        doc.is("a 21st", x.first(0, 0, 0, 1, 0), -1);
        doc.is("how many", x.count(10), 20);
        doc.is("in another home", x.first(1, 0, 0, 1, 0), 0);
        doc.range("thing, i", 0, 19, i -> x.thing(0, i, 0) == -2);
        doc.range("led, i", 0, 19, i -> x.led(0, i, 0) == 0);
        doc.range("claim, i", 0, 19, i -> x.claim(0, i, 0, 0, 0) >= 0);
        doc.no("one more than are there", x.thing(1, 1, 0) == -2);
    }

    private void rooms() {
        doc.range("first, room", 0, 9, room -> Cases.withHome().first(0, room, 0, 1, 0) == 0);
        doc.range("last, room", 0, 9, room -> Cases.withHome().last(0, room, 0, 1) == 0);
        for (int room = 0; room < 10; room++) {
            DepositJudge x = Cases.withHome();
            x.first(0, room, 0, 1, 0);
            Due.law(x, "f1(r=0);f2(r=1);f3(r=2);f4(r=3);f5(r=4);f6(r=5);f7(r=6);f8(r=7);f9(r=8)");
            doc.is("wear in room " + room, x.thing(0, 0, 2), room == 9 ? 0 : room + 1);
        }
    }

    private void states() {
        doc.range("first, state", 1, 9, state -> Cases.withHome().first(0, 0, 0, state, 0) == 0);
        doc.range("last, state", 1, 9, state -> Cases.withHome().last(0, 0, 0, state) == 0);
        for (int state = 1; state <= 9; state++) {
            DepositJudge x = Cases.joined(new int[] {state}, state);
            Due.law(x, "fs(1=1)");
            doc.is("state " + state + " at first", x.thing(0, 0, 2), state);
            Due.law(x, "fo(1=1)");
            doc.is("state " + state + " at last", x.thing(0, 0, 2), state);
        }
    }

    private void ages() {
        doc.range("first, age", 0, 360, age -> Cases.withHome().first(0, 0, 0, 1, age) == 0);
        for (int age : new int[] {0, 1, 359, 360}) {
            DepositJudge x = Cases.withHome();
            x.first(0, 0, 0, 1, age);
            Due.law(x, "f1(a=0);f2(a=1);f3(a=359);f4(a=360)");
            doc.is("age " + age, x.thing(0, 0, 2), age < 2 ? age + 1 : age - 356);
        }
    }

    private void lastList() {
        DepositJudge x = Cases.withHomes(2);
        for (int j = 0; j < 20; j++) {
            doc.is("last", x.last(0, j % 10, j % 8, 1 + j % 9), j);
        }
        doc.is("a 21st", x.last(0, 0, 0, 1), -1);
        doc.is("how many", x.count(20), 20);
        doc.is("in another home", x.last(1, 0, 0, 1), 0);
        doc.is("none at first", x.count(10), 0);
        doc.range("isNew, j", 0, 19, j -> x.isNew(0, j) == 1);
        doc.no("one more than are there", x.isNew(1, 1) == 1);
        DepositJudge y = Cases.withHome();
        for (int k = 0; k < 20; k++) {
            y.first(0, k / 2, 7 - k / 3, 5, 0);
            y.last(0, k / 2, 7 - k / 3, 5);
        }
        for (int k = 0; k < 20; k++) {
            doc.is("each to its own room and kind", y.thing(0, k, 0), k);
        }
    }

    private void oneRoomAndKind() {
        for (int room = 0; room < 10; room++) {
            for (int kind = 0; kind < 8; kind++) {
                DepositJudge x = Cases.withHome();
                x.first(0, 4, 5, 9, 0);
                x.last(0, room, kind, 1);
                boolean own = room == 4 && kind == 5;
                doc.is("room " + room + ", kind " + kind, x.thing(0, 0, 0), own ? 0 : -2);
            }
        }
        DepositJudge x = Cases.withHomes(2);
        x.first(0, 0, 0, 5, 0);
        x.last(1, 0, 0, 5);
        doc.is("of another home", x.thing(0, 0, 0), -2);
        DepositJudge y = Cases.withHome();
        for (int room = 0; room < 5; room++) {
            y.last(0, room, 0, 9);
        }
        y.first(0, 5, 0, 9, 0);
        y.last(0, 5, 0, 8);
        doc.is("its own beside new ones of other rooms", y.thing(0, 0, 0), 5);
        y.last(0, 5, 0, 9);
        doc.is("a better one of its own", y.thing(0, 0, 0), 6);
    }

    private void row(int[] before, int[] after, int... want) {
        int[] row = Cases.row(Cases.joined(before, after), before.length);
        doc.yes(Arrays.toString(before) + " to " + Arrays.toString(after) + " is " + Arrays.toString(row) + ", due is "
                + Arrays.toString(want), Arrays.equals(row, want));
    }

    private void oneToOne() {
        row(new int[] {5, 5, 5}, new int[] {5}, 0, -2, -2);
        row(new int[] {5}, new int[] {5, 5, 5}, 0);
        row(new int[] {5, 5, 5}, new int[] {5, 5, 5}, 0, 1, 2);
        row(new int[] {9, 9}, new int[] {9, 1}, 0, 1);
    }

    private void leastLost() {
        row(new int[] {2, 9}, new int[] {9, 2}, 1, 0);
        row(new int[] {1, 5, 9}, new int[] {9, 5, 1}, 2, 1, 0);
        row(new int[] {9}, new int[] {1, 8, 2}, 1);
        row(new int[] {9, 5, 4}, new int[] {4, 6}, 1, 0, -2);
        row(new int[] {3, 6, 9}, new int[] {5, 8}, -2, 0, 1);
        for (int states = 0; states < 9 * 9 * 9 * 9; states++) {
            twoAndTwo(1 + states % 9, 1 + states / 9 % 9, 1 + states / 81 % 9, 1 + states / 729);
        }
    }

    /** Both ways of joining two to two, of one to two and of two to one, by what is lost. */
    private void twoAndTwo(int a, int b, int c, int d) {
        boolean crossed = Math.max(0, a - d) + Math.max(0, b - c) < Math.max(0, a - c) + Math.max(0, b - d);
        row(new int[] {a, b}, new int[] {c, d}, crossed ? 1 : 0, crossed ? 0 : 1);
        if (b == 1) {
            row(new int[] {a}, new int[] {c, d}, Math.max(0, a - d) < Math.max(0, a - c) ? 1 : 0);
        }
        if (d == 1) {
            boolean second = a + Math.max(0, b - c) < Math.max(0, a - c) + b;
            row(new int[] {a, b}, new int[] {c}, second ? -2 : 0, second ? 0 : -2);
        }
    }

    private void lower() {
        row(new int[] {9, 1}, new int[] {5, 9}, 1, 0);
        row(new int[] {3, 5}, new int[] {9}, -2, 0);
        row(new int[] {1, 2}, new int[] {9, 2}, 0, 1);
        row(new int[] {4}, new int[] {5, 4, 9}, 0);
        row(new int[] {8, 4}, new int[] {6, 6}, 0, 1);
    }

    private void notJoined() {
        row(new int[] {3, 8}, new int[] {4}, -2, 0);
        row(new int[] {8, 3}, new int[] {4}, 0, -2);
        row(new int[] {1, 9}, new int[] {1}, 0, -2);
        row(new int[] {1, 2, 9}, new int[] {2, 9}, -2, 0, 1);
    }

    /** Whoever could be joined is joined, as a thing joined always loses less than its state. */
    private void mostJoined() {
        for (int before = 1; before <= 9; before++) {
            for (int after = 1; after <= 9; after++) {
                row(new int[] {before}, new int[] {after}, 0);
                row(new int[] {before, before}, new int[] {after, after}, 0, 1);
                row(new int[] {before, before}, new int[] {after}, 0, -2);
            }
        }
        row(new int[] {9, 9, 9, 9}, new int[] {1, 1, 1}, 0, 1, 2, -2);
    }

    private void leastRow() {
        row(new int[] {5, 5, 5}, new int[] {7, 6, 5}, 0, 1, 2);
        row(new int[] {6, 8}, new int[] {3, 5}, 0, 1);
        row(new int[] {5}, new int[] {6, 5}, 0);
        row(new int[] {5, 5}, new int[] {1, 4, 4}, 1, 2);
        row(new int[] {7, 2, 7}, new int[] {2, 7, 7}, 1, 0, 2);
        row(new int[] {9, 8, 7}, new int[] {1, 2, 3, 4, 5, 6}, 3, 4, 5);
    }

    private void nothingBehindAll() {
        row(new int[] {4, 4}, new int[] {4}, 0, -2);
        row(new int[] {2, 3}, new int[] {1}, 0, -2);
        row(new int[] {5, 5, 5}, new int[] {5, 5}, 0, 1, -2);
        row(new int[] {5, 6, 5}, new int[] {5}, 0, -2, -2);
    }

    private void change(int before, int after, int want) {
        doc.is(before + " to " + after, Cases.joined(new int[] {before}, after).thing(0, 0, 1), want);
    }

    private void change() {
        for (int before = 1; before <= 9; before++) {
            for (int after = 1; after <= 9; after++) {
                change(before, after, after == before ? 0 : after < before ? 1 : 3);
            }
            doc.is(before + " to nothing", Cases.joined(new int[] {before}).thing(0, 0, 1), 2);
        }
    }

    private void isNew() {
        DepositJudge x = Cases.joined(new int[] {5}, 4, 5, 3);
        x.last(0, 0, 0, 9);
        doc.is("worse", x.isNew(0, 0), 1);
        doc.is("joined", x.isNew(0, 1), 0);
        doc.is("worse", x.isNew(0, 2), 1);
        doc.is("of another room", x.isNew(0, 3), 1);
        x.first(0, 3, 2, 3, 0);
        doc.is("joined since", x.isNew(0, 0), 0);
        doc.is("still joined", x.isNew(0, 1), 0);
    }

    private void aged() {
        DepositJudge x = new DepositJudge();
        x.home(0, 1, 0, 0, 999, true);
        x.home(0, 1, 0, 7, 7, true);
        x.home(0, 1, 0, 5, 17, true);
        x.first(0, 0, 0, 1, 360);
        x.first(1, 0, 0, 1, 360);
        x.first(2, 0, 0, 1, 0);
        Due.law(x, "f1(a=1359);f2(a=360);f3(a=12)");
        doc.is("360 and 999", x.thing(0, 0, 2), 1);
        doc.is("360 and 0", x.thing(1, 0, 2), 2);
        doc.is("0 and 12", x.thing(2, 0, 2), 3);
        x.price(0, 0, 120);
        doc.is("worth when aged 12 of 120", x.thing(2, 0, 3), 108);
    }

    private void worthInRegion() {
        DepositJudge x = new DepositJudge();
        for (int region = 0; region < 4; region++) {
            x.price(1, region, 1000 * (region + 1));
            x.price(2, region, 7);
            x.home(region, 1, 0, 0, 60, true);
            x.first(region, 0, 1, 1, 0);
        }
        for (int region = 0; region < 4; region++) {
            doc.is("aged, region " + region, x.thing(region, 0, 3), 500 * (region + 1));
            doc.is("led, region " + region, x.led(region, 0, 0), 1000 * (region + 1));
        }
    }

    private static int worth(int pence, int life, int age) {
        DepositJudge x = Cases.withHome();
        x.price(0, 0, pence);
        x.life(0, life);
        x.first(0, 0, 0, 1, age);
        return x.thing(0, 0, 3);
    }

    private void worth() {
        doc.is("999 of life 100 at 53", worth(999, 100, 53), 469);
        doc.is("1 of life 2 at 1", worth(1, 2, 1), 0);
        doc.is("2 of life 3 at 1", worth(2, 3, 1), 1);
        doc.is("99999 of life 360 at 0", worth(99999, 360, 0), 99999);
        doc.is("99999 of life 360 at 1", worth(99999, 360, 1), 99721);
        doc.is("99999 of life 360 at 359", worth(99999, 360, 359), 277);
        doc.is("100 of life 7 at 3", worth(100, 7, 3), 57);
    }

    private void worthFromLifeOn() {
        doc.is("a month before", worth(1000, 10, 9), 100);
        doc.is("at its life", worth(1000, 10, 10), 0);
        doc.is("a month behind", worth(1000, 10, 11), 0);
        doc.is("long behind", worth(99999, 1, 360), 0);
        DepositJudge x = new DepositJudge();
        x.price(0, 0, 99999);
        x.life(0, 1);
        x.home(0, 1, 0, 0, 999, true);
        x.first(0, 0, 0, 1, 360);
        doc.is("longest behind", x.thing(0, 0, 3), 0);
        doc.is("nothing is lost of it", x.thing(0, 0, 4), 0);
    }
}
