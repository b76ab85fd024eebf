/**
 * Judges the deposits of homes that were left: what wore by itself, what was lost, who must prove it,
 * and what goes to the owner and back to each tenant, by a law that is given as a text.
 */
public final class DepositJudge {
    public static final int NONE = -1;

    private static final int UNJOINED = -2;
    private static final int CLAIMED_BEFORE = -2;
    private static final int NOT_MADE_YET = -2;
    private static final int OFFER_LACKS = -2;
    private static final int NOT_MET = -3;
    private static final int ALL_ARE_KIN = -2;
    private static final int NO_OTHER_HOME = -2;
    private static final int NO_CHECK = -2;
    private static final int NO_SPREAD = -1000000;
    private static final int NO_BOUND = -100000;

    private static final int KINDS = 8;
    private static final int REGIONS = 4;
    private static final int ROOMS = 10;
    private static final int BEST_STATE = 9;
    private static final int LONGEST_LIFE = 360;
    private static final int LIFE_AT_FIRST = 120;
    private static final int DEAREST_PRICE = 99999;
    private static final int MOST_HOMES = 6;
    private static final int MOST_TENANTS = 4;
    private static final int MOST_PARTS = 99;
    private static final int MOST_PENCE = 999999;
    private static final int LAST_MONTH = 999;
    private static final int DEBTS = 3;
    private static final int MOST_THINGS = 20;
    private static final int MOST_YEARS = 30;
    private static final int MOST_CLAIMS = 30;
    private static final int CAUSES = 10;
    private static final int EVIDENCES = 8;
    private static final int LAST_DAY = 9999;
    private static final int JUDGES = 6;
    private static final int DRAW_NUMBERS = 65536;
    private static final int MOST_DOUBLES = 40;
    private static final int DEAREST_DOUBLE = 9999;
    private static final int PICTURES = 10;
    private static final int MOST_FACTS = 30;
    private static final int MOST_FACT_DAYS = 999;

    private static final int TAPE_BYTES = 220;
    private static final int LAW_BYTES = 200;
    private static final int MOST_CLAUSES = 14;
    private static final int MOST_OPEN = 6;
    private static final int MOST_DIGITS = 5;
    private static final int LETTERS = 10;

    private static final int MOST_WEAR = 9;
    private static final int ALL_HUNDREDTHS = 100;
    private static final int LONGEST_SILENCE = 999;
    private static final int MOST_TIMES = 9;

    private static final int NOTHING_LOST = 1;
    private static final int ALL_AGREED = 2;
    private static final int SILENT_TOO_LONG = 3;
    private static final int SILENT_YET = 4;
    private static final int TENANTS_PROVED_NOT = 5;
    private static final int TENANTS_PROVED = 6;
    private static final int OWNER_PROVED = 7;
    private static final int OWNER_PROVED_NOT = 8;

    private final PriceList prices = new PriceList();
    private final Home[] homes = new Home[MOST_HOMES];
    private int homeCount = 0;
    private final Joiner joiner = new Joiner();
    private final Tape tape = new Tape();
    private final LawReader reader = new LawReader();
    private Law lawInForce = new Law();
    private final int[] letters = new int[LETTERS];
    private final Docket docket = new Docket();
    private final Docket keptDocket = new Docket();
    private boolean wasKept = false;
    private final Division division = new Division();
    private final Doubles doubles = new Doubles();
    private final Pictures pictures = new Pictures();

    /** Everything but the homes is made here once, as no call may ask for much room. */
    public DepositJudge() {
    }

    public boolean life(int kind, int months) {
        if (!within(kind, 0, KINDS - 1) || !within(months, 1, LONGEST_LIFE)) {
            return false;
        }
        prices.lives[kind] = months;
        return true;
    }

    public boolean price(int kind, int region, int pence) {
        if (!within(kind, 0, KINDS - 1) || !within(region, 0, REGIONS - 1) || !within(pence, 0, DEAREST_PRICE)) {
            return false;
        }
        prices.pence[kind * REGIONS + region] = pence;
        return true;
    }

    public int home(int region, int tenants, int deposit, int from, int to, boolean kept) {
        if (!within(region, 0, REGIONS - 1) || !within(tenants, 1, MOST_TENANTS) || !within(deposit, 0, MOST_PENCE)
                || !within(from, 0, LAST_MONTH) || !within(to, from, LAST_MONTH) || homeCount >= MOST_HOMES) {
            return NONE;
        }
        Home home = new Home(region, tenants, deposit, from, to, kept);
        homes[homeCount] = home;
        homeCount++;
        return homeCount - 1;
    }

    public boolean part(int h, int tenant, int n) {
        Home home = homeAt(h);
        if (home == null || !within(tenant, 0, home.tenants - 1) || !within(n, 0, MOST_PARTS)) {
            return false;
        }
        home.parts[tenant] = n;
        return true;
    }

    public boolean owes(int h, int what, int pence) {
        Home home = homeAt(h);
        if (home == null || !within(what, 0, DEBTS - 1) || !within(pence, 0, MOST_PENCE)) {
            return false;
        }
        home.debts[what] = pence;
        return true;
    }

    public int first(int h, int room, int kind, int state, int age) {
        Home home = homeAt(h);
        if (home == null || !isThing(room, kind, state) || !within(age, 0, LONGEST_LIFE)) {
            return NONE;
        }
        return listed(home, home.atFirst.add(room, kind, state, age), room, kind);
    }

    public int last(int h, int room, int kind, int state) {
        Home home = homeAt(h);
        if (home == null || !isThing(room, kind, state)) {
            return NONE;
        }
        return listed(home, home.atLast.add(room, kind, state, 0), room, kind);
    }

    public int feed(int a, int b, int c, int d, int e) {
        if (tape.length > TAPE_BYTES - 20) {
            return NONE;
        }
        tape.add(a);
        tape.add(b);
        tape.add(c);
        tape.add(d);
        tape.add(e);
        return tape.length;
    }

    public int law(int n) {
        if (!within(n, 1, LAW_BYTES) || n > tape.length) {
            return NONE;
        }
        int fault = reader.read(tape, n);
        tape.length = 0;
        if (fault != 0) {
            return fault;
        }
        Law before = lawInForce;
        lawInForce = reader.draft;
        reader.draft = before;
        return lawInForce.clauses;
    }

    public int thing(int h, int i, int what) {
        Home home = homeAt(h);
        if (home == null || !within(i, 0, home.atFirst.count - 1)) {
            return NONE;
        }
        switch (what) {
            case 0:
                return home.joined[i];
            case 1:
                return home.change(i);
            case 2:
                return fairWear(home, i);
            case 3:
                return worth(home, i, home.months());
            case 4:
                return lost(home, i, fairWear(home, i));
            default:
                return NONE;
        }
    }

    public int isNew(int h, int j) {
        Home home = homeAt(h);
        if (home == null || !within(j, 0, home.atLast.count - 1)) {
            return NONE;
        }
        return home.isJoinedTo(j) ? 0 : 1;
    }

    public int led(int h, int i, int years) {
        Home home = homeAt(h);
        if (home == null || !within(i, 0, home.atFirst.count - 1) || !within(years, 0, MOST_YEARS)) {
            return NONE;
        }
        return worth(home, i, 12 * years);
    }

    public int claim(int h, int i, int cause, int evidence, int day) {
        Home home = homeAt(h);
        if (home == null || !within(i, 0, home.atFirst.count - 1) || !within(cause, 0, CAUSES - 1)
                || !within(evidence, 0, EVIDENCES - 1) || !isDay(day)) {
            return NONE;
        }
        if (docket.isClaimed(h, i)) {
            return CLAIMED_BEFORE;
        }
        return docket.add(h, i, cause, evidence, day);
    }

    public boolean agree(int claim, int pence) {
        if (!isClaim(claim) || !within(pence, 0, MOST_PENCE)) {
            return false;
        }
        docket.agreed[claim] = pence;
        return true;
    }

    public boolean answer(int claim, int day, boolean proof) {
        if (!isClaim(claim) || !isDay(day) || day < docket.madeOn[claim]) {
            return false;
        }
        docket.answeredOn[claim] = day;
        docket.proof[claim] = proof;
        return true;
    }

    public int award(int claim, int day, int what) {
        Home home = isClaim(claim) ? homeAt(docket.homes[claim]) : null;
        if (home == null || !isDay(day) || !within(what, 0, 1)) {
            return NONE;
        }
        if (day < docket.madeOn[claim]) {
            return NOT_MADE_YET;
        }
        int i = docket.things[claim];
        int lost = lost(home, i, fairWear(home, i));
        describe(home, i, docket.causes[claim], docket.evidences[claim]);
        int reason = reason(claim, day, lost);
        return what == 0 ? awarded(claim, reason, lost) : reason;
    }

    public int judged(int h, int day, int what) {
        Home home = homeAt(h);
        if (home == null || !isDay(day)) {
            return NONE;
        }
        if (what >= 10 && what - 10 < home.tenants) {
            division.divide(paidBack(home, awards(h, day)), home);
            return division.shares[what - 10];
        }
        switch (what) {
            case 0:
                return toOwner(home, awards(h, day));
            case 1:
                return home.deposit - toOwner(home, awards(h, day));
            case 2:
                return penalty(home);
            case 3:
                return awards(h, day);
            default:
                return NONE;
        }
    }

    public int offer(int h, boolean owner, int pence) {
        if (homeAt(h) == null || !within(pence, 0, MOST_PENCE)) {
            return NONE;
        }
        if (owner) {
            docket.ownerOffers[h] = pence;
        } else {
            docket.tenantOffers[h] = pence;
        }
        return docket.hasBothOffers(h) ? 1 : 0;
    }

    public int met(int h) {
        if (homeAt(h) == null) {
            return NONE;
        }
        if (!docket.hasBothOffers(h)) {
            return OFFER_LACKS;
        }
        int least = docket.ownerOffers[h];
        int most = docket.tenantOffers[h];
        if (least > most) {
            docket.dropOffers(h);
            return NOT_MET;
        }
        return (least + most) / 2;
    }

    public boolean kin(int judge, int h, boolean is) {
        Home home = homeAt(h);
        if (home == null || !within(judge, 0, JUDGES - 1) || home.kin[judge] == is) {
            return false;
        }
        home.kin[judge] = is;
        return true;
    }

    public boolean seed(int x) {
        if (!within(x, 0, DRAW_NUMBERS - 1)) {
            return false;
        }
        docket.x = x;
        return true;
    }

    public int draw(int h) {
        Home home = homeAt(h);
        if (home == null) {
            return NONE;
        }
        if (home.allAreKin()) {
            return ALL_ARE_KIN;
        }
        int x = docket.x;
        // The numbers come round after 65536 steps and pass every judge, so one round is enough.
        for (int step = 0; step < DRAW_NUMBERS; step++) {
            x = (25173 * x + 13849) & (DRAW_NUMBERS - 1);
            if (!home.kin[x % JUDGES]) {
                docket.x = x;
                return x % JUDGES;
            }
        }
        return ALL_ARE_KIN;
    }

    public int twice(int a, int b, int byA, int byB) {
        if (!within(a, 0, JUDGES - 1) || !within(b, 0, JUDGES - 1) || a == b
                || !within(byA, 0, DEAREST_DOUBLE) || !within(byB, 0, DEAREST_DOUBLE)
                || doubles.count >= MOST_DOUBLES) {
            return NONE;
        }
        doubles.count++;
        doubles.add(a, byA - byB);
        doubles.add(b, byB - byA);
        return doubles.count;
    }

    public int spread(int judge, int what) {
        if (!within(judge, 0, JUDGES - 1) || !within(what, 0, 3) || doubles.times[judge] == 0) {
            return NO_SPREAD;
        }
        int above = what < 2 ? doubles.apart[judge] : doubles.more[judge];
        int below = doubles.times[judge];
        int common = commonDivisor(Math.abs(above), below);
        if (common == 0) {
            return NO_SPREAD;
        }
        return (what % 2 == 0 ? above : below) / common;
    }

    public int like(int h, int what) {
        Home home = homeAt(h);
        if (home == null || !within(what, 0, 1)) {
            return NONE;
        }
        int nearest = NO_OTHER_HOME;
        int least = NO_OTHER_HOME;
        for (int g = 0; g < homeCount; g++) {
            Home other = homeAt(g);
            if (g == h || other == null) {
                continue;
            }
            int distance = distance(home, other);
            if (nearest == NO_OTHER_HOME || distance < least) {
                nearest = g;
                least = distance;
            }
        }
        return what == 0 ? nearest : least;
    }

    public int fact(int a, int b, int days) {
        if (!within(a, 0, PICTURES) || !within(b, 0, PICTURES) || a == b
                || !within(days, -MOST_FACT_DAYS, MOST_FACT_DAYS)) {
            return NONE;
        }
        return pictures.add(a, b, days);
    }

    public int dated(int picture, int what) {
        if (!within(picture, 0, PICTURES - 1) || !within(what, 0, 1)) {
            return NO_BOUND;
        }
        int gap = what == 0 ? pictures.gap(PICTURES, picture) : pictures.gap(picture, PICTURES);
        if (gap == Pictures.UNKNOWN) {
            return NO_BOUND;
        }
        return what == 0 ? gap : -gap;
    }

    public int wrong(int what) {
        if (what == NONE) {
            return pictures.wrongCount;
        }
        return within(what, 0, pictures.wrongCount - 1) ? pictures.wrongFacts[what] : NONE;
    }

    public int byKind(int kind, int day) {
        if (!within(kind, 0, KINDS - 1) || !isDay(day)) {
            return NONE;
        }
        int together = 0;
        for (int c = 0; c < docket.claims; c++) {
            Home home = homeAt(docket.homes[c]);
            if (home != null && home.atFirst.kinds[docket.things[c]] == kind) {
                together += Math.max(0, award(c, day, 0));
            }
        }
        return together;
    }

    public int keep() {
        keptDocket.copyFrom(docket);
        wasKept = true;
        return docket.claims;
    }

    public boolean undo() {
        if (!wasKept) {
            return false;
        }
        docket.copyFrom(keptDocket);
        return true;
    }

    public int check(int h, int day, int n) {
        Home home = homeAt(h);
        if (home == null || !isDay(day) || !within(n, 0, MOST_TENANTS) || 4 * n > tape.length) {
            return NO_CHECK;
        }
        division.divide(paidBack(home, awards(h, day)), home);
        int unlike = division.firstUnlike(tape, Math.min(n, home.tenants));
        tape.length = 0;
        return unlike == n && n == home.tenants ? NONE : unlike;
    }

    public int count(int what) {
        if (what >= 30) {
            return isClaim(what - 30) ? docket.homes[what - 30] : NONE;
        }
        if (what >= 10) {
            Home home = homeAt(what % 10);
            if (home == null) {
                return NONE;
            }
            return what < 20 ? home.atFirst.count : home.atLast.count;
        }
        switch (what) {
            case 0:
                return homeCount;
            case 1:
                return docket.claims;
            case 2:
                return lawInForce.clauses;
            case 3:
                return tape.length;
            case 4:
                return doubles.count;
            case 5:
                return pictures.facts;
            case 6:
                return docket.x;
            default:
                return NONE;
        }
    }

    private static boolean within(int value, int least, int most) {
        return value >= least && value <= most;
    }

    private static boolean isDay(int day) {
        return within(day, 0, LAST_DAY);
    }

    private static boolean isThing(int room, int kind, int state) {
        return within(room, 0, ROOMS - 1) && within(kind, 0, KINDS - 1) && within(state, 1, BEST_STATE);
    }

    private boolean isClaim(int claim) {
        return within(claim, 0, docket.claims - 1);
    }

    private Home homeAt(int h) {
        return within(h, 0, homeCount - 1) ? homes[h] : null;
    }

    private int listed(Home home, int number, int room, int kind) {
        if (number != NONE) {
            joiner.join(home, room, kind);
        }
        return number;
    }

    private int worth(Home home, int i, int monthsOn) {
        Things list = home.atFirst;
        return prices.worth(list.kinds[i], home.region, list.ages[i] + monthsOn);
    }

    private int fairWear(Home home, int i) {
        describe(home, i, 0, 0);
        return lawInForce.amount('f', letters, 0, MOST_WEAR);
    }

    private int lost(Home home, int i, int wear) {
        int state = home.atFirst.states[i];
        int below = Math.max(0, state - wear) - home.stateAtLast(i);
        if (below <= 0 || state <= 0) {
            return 0;
        }
        return worth(home, i, home.months()) * below / state;
    }

    /** Sets what the law's letters stand for; their places are those of Law.LETTER_SIGNS. */
    private void describe(Home home, int i, int cause, int evidence) {
        letters[0] = home.atFirst.kinds[i];
        letters[1] = home.atFirst.rooms[i];
        letters[2] = home.atFirst.states[i];
        letters[3] = home.stateAtLast(i);
        letters[4] = home.atFirst.ages[i] + home.months();
        describeHome(home);
        letters[8] = cause;
        letters[9] = evidence;
    }

    private void describeHome(Home home) {
        letters[5] = home.months();
        letters[6] = home.tenants;
        letters[7] = home.region;
    }

    /** The letters must stand for the claim already, here and in awarded. */
    private int reason(int claim, int day, int lost) {
        if (lost == 0) {
            return NOTHING_LOST;
        }
        if (docket.agreed[claim] >= lost) {
            return ALL_AGREED;
        }
        if (!docket.isAnsweredBy(claim, day)) {
            int silence = lawInForce.amount('d', letters, LONGEST_SILENCE, LONGEST_SILENCE);
            return day - docket.madeOn[claim] > silence ? SILENT_TOO_LONG : SILENT_YET;
        }
        if (lawInForce.someHolds('b', letters)) {
            return docket.proof[claim] ? TENANTS_PROVED : TENANTS_PROVED_NOT;
        }
        int evidence = docket.evidences[claim];
        return (evidence & 1) != 0 && (evidence & 6) != 0 ? OWNER_PROVED : OWNER_PROVED_NOT;
    }

    private int awarded(int claim, int reason, int lost) {
        int agreed = docket.agreed[claim];
        switch (reason) {
            case NOTHING_LOST:
                return 0;
            case ALL_AGREED:
            case SILENT_TOO_LONG:
                return lost;
            case TENANTS_PROVED_NOT:
            case OWNER_PROVED:
                return Math.max(agreed, lost * lawInForce.amount('p', letters, ALL_HUNDREDTHS, ALL_HUNDREDTHS) / 100);
            default:
                return agreed;
        }
    }

    private int awards(int h, int day) {
        int together = 0;
        for (int c = 0; c < docket.claims; c++) {
            if (docket.homes[c] == h) {
                // A claim that was not made by the day answers below 0, and brings nothing.
                together += Math.max(0, award(c, day, 0));
            }
        }
        return together;
    }

    private int toOwner(Home home, int awards) {
        return Math.min(home.deposit, awards + home.owed());
    }

    private int penalty(Home home) {
        if (home.kept) {
            return 0;
        }
        for (int k = 0; k < LETTERS; k++) {
            letters[k] = 0;
        }
        describeHome(home);
        return home.deposit * lawInForce.amount('t', letters, 0, MOST_TIMES);
    }

    private int paidBack(Home home, int awards) {
        return home.deposit - toOwner(home, awards) + penalty(home);
    }

    private static int distance(Home one, Home other) {
        int together = Math.abs(one.months() - other.months()) / 12;
        for (int kind = 0; kind < KINDS; kind++) {
            together += 10 * Math.abs(one.worsened(kind) - other.worsened(kind));
        }
        return together;
    }

    private static int commonDivisor(int a, int b) {
        int one = a;
        int other = b;
        // Each two steps halve the number at least, so 64 are enough for any int.
        for (int step = 0; step < 64 && other != 0; step++) {
            int rest = one % other;
            one = other;
            other = rest;
        }
        return one;
    }

    private static final class PriceList {
        final int[] lives = new int[KINDS];
        final int[] pence = new int[KINDS * REGIONS];

        PriceList() {
            for (int kind = 0; kind < KINDS; kind++) {
                lives[kind] = LIFE_AT_FIRST;
            }
        }

        int worth(int kind, int region, int age) {
            int life = lives[kind];
            if (life <= 0 || age >= life) {
                return 0;
            }
            return pence[kind * REGIONS + region] * (life - age) / life;
        }
    }

    private static final class Things {
        int count = 0;
        final int[] rooms = new int[MOST_THINGS];
        final int[] kinds = new int[MOST_THINGS];
        final int[] states = new int[MOST_THINGS];
        final int[] ages = new int[MOST_THINGS];

        int add(int room, int kind, int state, int age) {
            if (count >= MOST_THINGS) {
                return NONE;
            }
            rooms[count] = room;
            kinds[count] = kind;
            states[count] = state;
            ages[count] = age;
            count++;
            return count - 1;
        }

        boolean isOf(int i, int room, int kind) {
            return rooms[i] == room && kinds[i] == kind;
        }
    }

    private static final class Home {
        final int region;
        final int tenants;
        final int deposit;
        final int from;
        final int to;
        final boolean kept;
        final int[] parts = new int[MOST_TENANTS];
        final int[] debts = new int[DEBTS];
        final boolean[] kin = new boolean[JUDGES];
        final Things atFirst = new Things();
        final Things atLast = new Things();
        final int[] joined = new int[MOST_THINGS];

        Home(int region, int tenants, int deposit, int from, int to, boolean kept) {
            this.region = region;
            this.tenants = tenants;
            this.deposit = deposit;
            this.from = from;
            this.to = to;
            this.kept = kept;
            for (int t = 0; t < MOST_TENANTS; t++) {
                parts[t] = 1;
            }
        }

        int months() {
            return to - from;
        }

        int owed() {
            int together = 0;
            for (int what = 0; what < DEBTS; what++) {
                together += debts[what];
            }
            return together;
        }

        boolean allAreKin() {
            for (int judge = 0; judge < JUDGES; judge++) {
                if (!kin[judge]) {
                    return false;
                }
            }
            return true;
        }

        boolean isGone(int i) {
            return joined[i] < 0 || joined[i] >= atLast.count;
        }

        int stateAtLast(int i) {
            return isGone(i) ? 0 : atLast.states[joined[i]];
        }

        int change(int i) {
            if (isGone(i)) {
                return 2;
            }
            int before = atFirst.states[i];
            int after = stateAtLast(i);
            if (after == before) {
                return 0;
            }
            return after < before ? 1 : 3;
        }

        boolean isJoinedTo(int j) {
            for (int i = 0; i < atFirst.count; i++) {
                if (joined[i] == j) {
                    return true;
                }
            }
            return false;
        }

        int worsened(int kind) {
            int many = 0;
            for (int i = 0; i < atFirst.count; i++) {
                if (atFirst.kinds[i] == kind && stateAtLast(i) < atFirst.states[i]) {
                    many++;
                }
            }
            return many;
        }
    }

    /**
     * Joins the two lists of a home. For each state s, lack[s] tells how many more things of the first list
     * than of the last one, of those not joined yet, are in state s or a better one. The least that can be
     * lost is what lies above 0 in lack, summed: at each s as many things must pass from s or better to below
     * it as there are too few at last, and pairing the best with the best loses no more. So a pair may be
     * taken just if it brings that sum down by what it loses itself, and no trial of whole rows is needed.
     * A thing not joined loses its whole state, as if it were joined to a thing in state 0; as every state is
     * at least 1, joining one more always loses less, and so the most are joined as well.
     */
    private static final class Joiner {
        private final int[] lack = new int[BEST_STATE + 1];
        private final boolean[] taken = new boolean[MOST_THINGS];

        /** Joins one group anew: a thing that is added can change nothing in the others. */
        void join(Home home, int room, int kind) {
            Things atFirst = home.atFirst;
            begin(home, room, kind);
            for (int i = 0; i < atFirst.count; i++) {
                if (atFirst.isOf(i, room, kind)) {
                    int j = lowestFit(home, i);
                    home.joined[i] = j;
                    change(atFirst.states[i], -1);
                    if (j >= 0) {
                        taken[j] = true;
                        change(home.atLast.states[j], 1);
                    }
                }
            }
        }

        private void begin(Home home, int room, int kind) {
            for (int state = 0; state <= BEST_STATE; state++) {
                lack[state] = 0;
            }
            for (int i = 0; i < home.atFirst.count; i++) {
                if (home.atFirst.isOf(i, room, kind)) {
                    change(home.atFirst.states[i], 1);
                }
            }
            for (int j = 0; j < home.atLast.count; j++) {
                taken[j] = false;
                if (home.atLast.isOf(j, room, kind)) {
                    change(home.atLast.states[j], -1);
                }
            }
        }

        private void change(int state, int by) {
            for (int s = 1; s <= state && s <= BEST_STATE; s++) {
                lack[s] += by;
            }
        }

        private int lowestFit(Home home, int i) {
            Things atFirst = home.atFirst;
            Things atLast = home.atLast;
            for (int j = 0; j < atLast.count; j++) {
                if (!taken[j] && atLast.isOf(j, atFirst.rooms[i], atFirst.kinds[i])
                        && fits(atFirst.states[i], atLast.states[j])) {
                    return j;
                }
            }
            return UNJOINED;
        }

        private boolean fits(int before, int after) {
            for (int s = after + 1; s <= before && s <= BEST_STATE; s++) {
                if (lack[s] <= 0) {
                    return false;
                }
            }
            for (int s = before + 1; s <= after && s <= BEST_STATE; s++) {
                if (lack[s] >= 0) {
                    return false;
                }
            }
            return true;
        }
    }

    private static final class Tape {
        final byte[] bytes = new byte[TAPE_BYTES];
        int length = 0;

        void add(int number) {
            for (int shift = 24; shift >= 0 && length < TAPE_BYTES; shift -= 8) {
                bytes[length] = (byte) (number >> shift);
                length++;
            }
        }

        int numberAt(int k) {
            int number = 0;
            for (int place = 4 * k; place >= 0 && place < 4 * k + 4 && place < TAPE_BYTES; place++) {
                number = number << 8 | bytes[place] & 255;
            }
            return number;
        }
    }

    /**
     * A law as steps for a stack, so that a clause can be asked often without its text being read again.
     * A step bears the sign that it comes from; each sign of the text makes one step at most.
     */
    private static final class Law {
        static final String LETTER_SIGNS = "krsoamngcv";
        static final char NUMBER = '0';
        static final char LETTER = 'k';

        int clauses = 0;
        private int steps = 0;
        private final int[] clauseLetters = new int[MOST_CLAUSES];
        private final int[] amountsFrom = new int[MOST_CLAUSES];
        private final int[] testsFrom = new int[MOST_CLAUSES];
        private final int[] testsTo = new int[MOST_CLAUSES];
        private final int[] signs = new int[LAW_BYTES];
        private final int[] operands = new int[LAW_BYTES];
        private final int[] stack = new int[LAW_BYTES];

        void clear() {
            clauses = 0;
            steps = 0;
        }

        boolean isFull() {
            return clauses >= MOST_CLAUSES;
        }

        void beginClause(int letter) {
            if (!isFull()) {
                clauseLetters[clauses] = letter;
                amountsFrom[clauses] = steps;
            }
        }

        void beginTest() {
            if (!isFull()) {
                testsFrom[clauses] = steps;
            }
        }

        void endClause() {
            if (!isFull()) {
                testsTo[clauses] = steps;
                clauses++;
            }
        }

        /** Answers the place of the step, for aim. */
        int add(int sign, int operand) {
            if (steps >= LAW_BYTES) {
                return NONE;
            }
            signs[steps] = sign;
            operands[steps] = operand;
            steps++;
            return steps - 1;
        }

        /** Lets a step that may pass over others go on behind the last one. */
        void aim(int place) {
            if (place >= 0 && place < steps) {
                operands[place] = steps;
            }
        }

        int amount(int letter, int[] meanings, int ifNone, int most) {
            for (int k = 0; k < clauses; k++) {
                if (clauseLetters[k] == letter && run(testsFrom[k], testsTo[k], meanings) != 0) {
                    return Math.max(0, Math.min(most, run(amountsFrom[k], testsFrom[k], meanings)));
                }
            }
            return ifNone;
        }

        boolean someHolds(int letter, int[] meanings) {
            for (int k = 0; k < clauses; k++) {
                if (clauseLetters[k] == letter && run(testsFrom[k], testsTo[k], meanings) != 0) {
                    return true;
                }
            }
            return false;
        }

        /** A division by 0 ends it with 0: so a test does not hold, and an amount is 0. */
        private int run(int from, int to, int[] meanings) {
            int height = 0;
            int at = from;
            for (int turn = 0; turn < LAW_BYTES && within(at, 0, to - 1) && to <= LAW_BYTES; turn++) {
                int sign = signs[at];
                int operand = operands[at];
                at++;
                if (sign == NUMBER || sign == LETTER) {
                    if (height >= LAW_BYTES || sign == LETTER && !within(operand, 0, LETTERS - 1)) {
                        return 0;
                    }
                    stack[height] = sign == NUMBER ? operand : meanings[operand];
                    height++;
                } else if (sign == '!' || sign == '|' || sign == '&') {
                    if (height < 1) {
                        return 0;
                    }
                    boolean holds = stack[height - 1] != 0;
                    if (sign == '!') {
                        stack[height - 1] = holds ? 0 : 1;
                    } else if (holds == (sign == '|')) {
                        at = operand;
                    } else {
                        height--;
                    }
                } else {
                    if (height < 2 || (sign == '/' || sign == '%') && stack[height - 1] == 0) {
                        return 0;
                    }
                    height--;
                    stack[height - 1] = combine(sign, stack[height - 1], stack[height]);
                }
            }
            return height > 0 ? stack[height - 1] : 0;
        }

        private static int combine(int sign, int a, int b) {
            switch (sign) {
                case '+':
                    return a + b;
                case '-':
                    return a - b;
                case '*':
                    return a * b;
                case '/':
                    return b == 0 ? 0 : a / b;
                case '%':
                    return b == 0 ? 0 : a % b;
                case '<':
                    return a < b ? 1 : 0;
                case '>':
                    return a > b ? 1 : 0;
                default:
                    return a == b ? 1 : 0;
            }
        }
    }

    /** Reads a law from the tape; how many of ( [ ! are open is carried along, and a seventh is refused. */
    private static final class LawReader {
        private static final int UNFIT = 1;
        private static final int SIXTH_DIGIT = 2;
        private static final int TOO_MANY_CLAUSES = 4;
        private static final int TOO_MANY_OPEN = 5;

        Law draft = new Law();
        private final byte[] text = new byte[LAW_BYTES];
        private int end = 0;
        private int at = 0;
        private int fault = 0;

        /** Answers 0, with the law in draft, or the fault as the document counts it. */
        int read(Tape tape, int n) {
            draft.clear();
            end = Math.min(n, LAW_BYTES);
            for (int k = 0; k < end; k++) {
                text[k] = tape.bytes[k];
            }
            at = 0;
            fault = 0;
            // The turn beyond the last clause that may be is there to tell the fault.
            for (int turn = 0; turn <= MOST_CLAUSES; turn++) {
                int letter = peek();
                if (!beginClause(letter) || letter != 'b' && !expression(0, true)
                        || !beginTest() || !condition(1, '|') || !endClause()
                        || at == end || !pass(';')) {
                    return fault;
                }
            }
            return fault;
        }

        private boolean beginClause(int letter) {
            if (letter != 'f' && letter != 'p' && letter != 'd' && letter != 't' && letter != 'b') {
                return refuse(UNFIT);
            }
            if (draft.isFull()) {
                return refuse(TOO_MANY_CLAUSES);
            }
            at++;
            draft.beginClause(letter);
            return true;
        }

        private boolean beginTest() {
            draft.beginTest();
            return pass('(');
        }

        private boolean endClause() {
            if (!pass(')')) {
                return false;
            }
            draft.endClause();
            return true;
        }

        /** A C, whose parts stand between |, or such a part, whose pieces stand between &. */
        private boolean condition(int open, char joint) {
            int jump = NONE;
            for (int turn = 0; turn < LAW_BYTES; turn++) {
                boolean stands = joint == '|' ? condition(open, '&') : piece(open);
                if (!stands) {
                    return false;
                }
                draft.aim(jump);
                if (peek() != joint) {
                    return true;
                }
                at++;
                jump = draft.add(joint, 0);
            }
            return true;
        }

        private boolean piece(int open) {
            int sign = peek();
            if (sign == '!' || sign == '(') {
                if (open >= MOST_OPEN) {
                    return refuse(TOO_MANY_OPEN);
                }
                at++;
                if (sign == '(') {
                    return condition(open + 1, '|') && pass(')');
                }
                if (!piece(open + 1)) {
                    return false;
                }
                draft.add('!', 0);
                return true;
            }
            if (!expression(open, true)) {
                return false;
            }
            int comparison = peek();
            if (comparison != '<' && comparison != '>' && comparison != '=') {
                return refuse(UNFIT);
            }
            at++;
            if (!expression(open, true)) {
                return false;
            }
            draft.add(comparison, 0);
            return true;
        }

        /** An E (sums), or one of its terms. */
        private boolean expression(int open, boolean sums) {
            int sign = NONE;
            for (int turn = 0; turn < LAW_BYTES; turn++) {
                boolean stands = sums ? expression(open, false) : factor(open);
                if (!stands) {
                    return false;
                }
                if (sign != NONE) {
                    draft.add(sign, 0);
                }
                sign = peek();
                boolean goesOn = sums ? sign == '+' || sign == '-' : sign == '*' || sign == '/' || sign == '%';
                if (!goesOn) {
                    return true;
                }
                at++;
            }
            return true;
        }

        private boolean factor(int open) {
            int sign = peek();
            if (sign == '[') {
                if (open >= MOST_OPEN) {
                    return refuse(TOO_MANY_OPEN);
                }
                at++;
                return expression(open + 1, true) && pass(']');
            }
            if (sign >= '0' && sign <= '9') {
                return number();
            }
            int meaning = sign == NONE ? NONE : Law.LETTER_SIGNS.indexOf((char) sign);
            if (meaning < 0) {
                return refuse(UNFIT);
            }
            at++;
            draft.add(Law.LETTER, meaning);
            return true;
        }

        private boolean number() {
            int value = 0;
            int sign = peek();
            for (int digits = 0; digits < MOST_DIGITS && sign >= '0' && sign <= '9'; digits++) {
                value = 10 * value + (sign - '0');
                at++;
                sign = peek();
            }
            if (sign >= '0' && sign <= '9') {
                return refuse(SIXTH_DIGIT);
            }
            draft.add(Law.NUMBER, value);
            return true;
        }

        private boolean pass(char sign) {
            if (peek() != sign) {
                return refuse(UNFIT);
            }
            at++;
            return true;
        }

        private int peek() {
            return at >= 0 && at < end ? text[at] & 255 : NONE;
        }

        private boolean refuse(int number) {
            fault = -1000 * number - at;
            return false;
        }
    }

    /** All that keep keeps and undo brings back. */
    private static final class Docket {
        int claims = 0;
        final int[] homes = new int[MOST_CLAIMS];
        final int[] things = new int[MOST_CLAIMS];
        final int[] causes = new int[MOST_CLAIMS];
        final int[] evidences = new int[MOST_CLAIMS];
        final int[] madeOn = new int[MOST_CLAIMS];
        final int[] agreed = new int[MOST_CLAIMS];
        final int[] answeredOn = new int[MOST_CLAIMS];
        final boolean[] proof = new boolean[MOST_CLAIMS];
        final int[] ownerOffers = new int[MOST_HOMES];
        final int[] tenantOffers = new int[MOST_HOMES];
        int x = 1;

        Docket() {
            for (int h = 0; h < MOST_HOMES; h++) {
                ownerOffers[h] = NONE;
                tenantOffers[h] = NONE;
            }
        }

        int add(int h, int i, int cause, int evidence, int day) {
            if (claims >= MOST_CLAIMS) {
                return NONE;
            }
            homes[claims] = h;
            things[claims] = i;
            causes[claims] = cause;
            evidences[claims] = evidence;
            madeOn[claims] = day;
            agreed[claims] = 0;
            answeredOn[claims] = NONE;
            proof[claims] = false;
            claims++;
            return claims - 1;
        }

        boolean isClaimed(int h, int i) {
            for (int c = 0; c < claims; c++) {
                if (homes[c] == h && things[c] == i) {
                    return true;
                }
            }
            return false;
        }

        boolean isAnsweredBy(int claim, int day) {
            return answeredOn[claim] != NONE && answeredOn[claim] <= day;
        }

        boolean hasBothOffers(int h) {
            return ownerOffers[h] != NONE && tenantOffers[h] != NONE;
        }

        void dropOffers(int h) {
            ownerOffers[h] = NONE;
            tenantOffers[h] = NONE;
        }

        void copyFrom(Docket other) {
            claims = other.claims;
            x = other.x;
            for (int c = 0; c < claims; c++) {
                homes[c] = other.homes[c];
                things[c] = other.things[c];
                causes[c] = other.causes[c];
                evidences[c] = other.evidences[c];
                madeOn[c] = other.madeOn[c];
                agreed[c] = other.agreed[c];
                answeredOn[c] = other.answeredOn[c];
                proof[c] = other.proof[c];
            }
            for (int h = 0; h < MOST_HOMES; h++) {
                ownerOffers[h] = other.ownerOffers[h];
                tenantOffers[h] = other.tenantOffers[h];
            }
        }
    }

    private static final class Division {
        final int[] shares = new int[MOST_TENANTS];
        private final int[] rests = new int[MOST_TENANTS];

        void divide(int pence, Home home) {
            int all = 0;
            for (int t = 0; t < home.tenants; t++) {
                all += home.parts[t];
            }
            boolean even = all == 0;
            int divisor = even ? home.tenants : all;
            if (divisor <= 0) {
                return;
            }
            int left = pence;
            for (int t = 0; t < home.tenants; t++) {
                // 99 parts of ten times the greatest deposit still fit into an int.
                int product = pence * (even ? 1 : home.parts[t]);
                shares[t] = product / divisor;
                rests[t] = product % divisor;
                left -= shares[t];
            }
            for (int penny = 0; penny < left && penny < home.tenants; penny++) {
                int t = greatestRest(home.tenants);
                shares[t]++;
                rests[t] = NONE;
            }
        }

        /** Which of the first numbers of the tape is not the share; as many as are asked, if all are. */
        int firstUnlike(Tape tape, int many) {
            for (int t = 0; t < many && t < MOST_TENANTS; t++) {
                if (tape.numberAt(t) != shares[t]) {
                    return t;
                }
            }
            return many;
        }

        private int greatestRest(int tenants) {
            int greatest = 0;
            for (int t = 1; t < tenants && t < MOST_TENANTS; t++) {
                if (rests[t] > rests[greatest]) {
                    greatest = t;
                }
            }
            return greatest;
        }
    }

    private static final class Doubles {
        int count = 0;
        final int[] times = new int[JUDGES];
        final int[] apart = new int[JUDGES];
        final int[] more = new int[JUDGES];

        void add(int judge, int difference) {
            times[judge]++;
            apart[judge] += Math.abs(difference);
            more[judge] += difference;
        }
    }

    /** Day 0 stands behind the pictures, as one more of them. */
    private static final class Pictures {
        static final int UNKNOWN = -1000000;
        private static final int ALL = PICTURES + 1;

        int facts = 0;
        int wrongCount = 0;
        final int[] wrongFacts = new int[MOST_FACTS];
        /** At a * ALL + b: how many days at least b is behind a, by all facts that are not wrong. */
        private final int[] gaps = new int[ALL * ALL];

        Pictures() {
            for (int a = 0; a < ALL; a++) {
                for (int b = 0; b < ALL; b++) {
                    gaps[a * ALL + b] = a == b ? 0 : UNKNOWN;
                }
            }
        }

        int gap(int a, int b) {
            return gaps[a * ALL + b];
        }

        int add(int a, int b, int days) {
            if (facts >= MOST_FACTS || wrongCount >= MOST_FACTS) {
                return NONE;
            }
            int back = gap(b, a);
            if (back != UNKNOWN && back + days > 0) {
                wrongFacts[wrongCount] = facts;
                wrongCount++;
            } else {
                stretch(a, b, days);
            }
            facts++;
            return facts;
        }

        /** As no way round is longer than 0, no longest way takes the new fact twice. */
        private void stretch(int a, int b, int days) {
            for (int from = 0; from < ALL; from++) {
                for (int to = 0; to < ALL; to++) {
                    if (gap(from, a) != UNKNOWN && gap(b, to) != UNKNOWN) {
                        int way = gap(from, a) + days + gap(b, to);
                        gaps[from * ALL + to] = Math.max(gap(from, to), way);
                    }
                }
            }
        }
    }
}
