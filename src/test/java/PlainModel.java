import java.util.ArrayList;
import java.util.Arrays;
import java.util.List;

/** The document once more, as slowly and plainly as can be, to compare random runs with. */
final class PlainModel {
    static final class Fault extends RuntimeException {
        private static final long serialVersionUID = 1L;
        final int answer;

        Fault(int number, int place) {
            answer = -1000 * number - place;
        }
    }

    static final class Refused extends RuntimeException {
        private static final long serialVersionUID = 1L;
    }

    interface Number {
        int of(java.util.Map<Character, Integer> letters);
    }

    interface Test {
        boolean of(java.util.Map<Character, Integer> letters);
    }

    static final class Clause {
        char letter;
        Number amount;
        Test test;
    }

    static final class Thing {
        int room, kind, state, age;
    }

    static final class Home {
        int region, tenants, deposit, from, to;
        boolean kept;
        int[] parts = {1, 1, 1, 1};
        int[] owes = new int[3];
        List<Thing> first = new ArrayList<>();
        List<Thing> last = new ArrayList<>();
        boolean[] kin = new boolean[6];
        int[] row;
    }

    static final class Claim {
        int home, thing, cause, evidence, day, agreed, answered = -1;
        boolean proof;

        Claim copy() {
            Claim c = new Claim();
            c.home = home;
            c.thing = thing;
            c.cause = cause;
            c.evidence = evidence;
            c.day = day;
            c.agreed = agreed;
            c.answered = answered;
            c.proof = proof;
            return c;
        }
    }

    int[] lives = new int[8];
    int[][] prices = new int[8][4];
    List<Home> homes = new ArrayList<>();
    List<Integer> tape = new ArrayList<>();
    List<Clause> law = new ArrayList<>();
    List<Claim> claims = new ArrayList<>();
    int[][] offers = {{-1, -1}, {-1, -1}, {-1, -1}, {-1, -1}, {-1, -1}, {-1, -1}};
    int x = 1;
    List<Claim> keptClaims = null;
    int[][] keptOffers;
    int keptX;
    List<int[]> doubles = new ArrayList<>();
    List<int[]> facts = new ArrayList<>();

    PlainModel() {
        Arrays.fill(lives, 120);
    }

    static boolean in(int v, int a, int b) {
        return a <= v && v <= b;
    }

    boolean life(int kind, int months) {
        if (!in(kind, 0, 7) || !in(months, 1, 360)) return false;
        lives[kind] = months;
        return true;
    }

    boolean price(int kind, int region, int pence) {
        if (!in(kind, 0, 7) || !in(region, 0, 3) || !in(pence, 0, 99999)) return false;
        prices[kind][region] = pence;
        return true;
    }

    int home(int region, int tenants, int deposit, int from, int to, boolean kept) {
        if (!in(region, 0, 3) || !in(tenants, 1, 4) || !in(deposit, 0, 999999)) return -1;
        if (!in(from, 0, 999) || !in(to, 0, 999) || to < from || homes.size() == 6) return -1;
        Home h = new Home();
        h.region = region;
        h.tenants = tenants;
        h.deposit = deposit;
        h.from = from;
        h.to = to;
        h.kept = kept;
        homes.add(h);
        return homes.size() - 1;
    }

    boolean isHome(int h) {
        return in(h, 0, homes.size() - 1);
    }

    boolean part(int h, int tenant, int n) {
        if (!isHome(h) || !in(tenant, 0, homes.get(h).tenants - 1) || !in(n, 0, 99)) return false;
        homes.get(h).parts[tenant] = n;
        return true;
    }

    boolean owes(int h, int what, int pence) {
        if (!isHome(h) || !in(what, 0, 2) || !in(pence, 0, 999999)) return false;
        homes.get(h).owes[what] = pence;
        return true;
    }

    private static Thing thingOf(int room, int kind, int state, int age) {
        if (!in(room, 0, 9) || !in(kind, 0, 7) || !in(state, 1, 9) || !in(age, 0, 360)) return null;
        Thing t = new Thing();
        t.room = room;
        t.kind = kind;
        t.state = state;
        t.age = age;
        return t;
    }

    int first(int h, int room, int kind, int state, int age) {
        Thing t = thingOf(room, kind, state, age);
        if (!isHome(h) || t == null || homes.get(h).first.size() == 20) return -1;
        homes.get(h).first.add(t);
        homes.get(h).row = null;
        return homes.get(h).first.size() - 1;
    }

    int last(int h, int room, int kind, int state) {
        Thing t = thingOf(room, kind, state, 0);
        if (!isHome(h) || t == null || homes.get(h).last.size() == 20) return -1;
        homes.get(h).last.add(t);
        homes.get(h).row = null;
        return homes.get(h).last.size() - 1;
    }

    int feed(int... words) {
        if (tape.size() + 20 > 220) return -1;
        for (int w : words) {
            for (int k = 0; k < 4; k++) tape.add(w >>> (24 - 8 * k) & 255);
        }
        return tape.size();
    }

    // ---- the law

    private String text;
    private int at;

    int law(int n) {
        if (!in(n, 1, 200) || tape.size() < n) return -1;
        StringBuilder b = new StringBuilder();
        for (int k = 0; k < n; k++) b.append((char) (int) tape.get(k));
        tape.clear();
        text = b.toString();
        at = 0;
        try {
            List<Clause> read = new ArrayList<>();
            do {
                if (!read.isEmpty()) at++;
                if ("fpdtb".indexOf(sign()) < 0) throw new Fault(1, at);
                if (read.size() == 14) throw new Fault(4, at);
                read.add(clause());
                if (at < n && sign() != ';') throw new Fault(1, at);
            } while (at < n);
            law = read;
            return read.size();
        } catch (Fault f) {
            return f.answer;
        }
    }

    private char sign() {
        return at < text.length() ? text.charAt(at) : (char) 300;
    }

    private void must(char c) {
        if (sign() != c) throw new Fault(1, at);
        at++;
    }

    private Clause clause() {
        Clause c = new Clause();
        c.letter = sign();
        at++;
        if (c.letter != 'b') c.amount = sum("");
        must('(');
        c.test = either("(");
        must(')');
        return c;
    }

    private void deeper(String open) {
        if (open.length() == 6) throw new Fault(5, at);
        at++;
    }

    private Test either(String open) {
        List<Test> parts = new ArrayList<>();
        parts.add(both(open));
        while (sign() == '|') {
            at++;
            parts.add(both(open));
        }
        return m -> {
            for (Test t : parts) if (t.of(m)) return true;
            return false;
        };
    }

    private Test both(String open) {
        List<Test> pieces = new ArrayList<>();
        pieces.add(piece(open));
        while (sign() == '&') {
            at++;
            pieces.add(piece(open));
        }
        return m -> {
            for (Test t : pieces) if (!t.of(m)) return false;
            return true;
        };
    }

    private Test piece(String open) {
        if (sign() == '!') {
            deeper(open);
            Test t = piece(open + "!");
            return m -> !t.of(m);
        }
        if (sign() == '(') {
            deeper(open);
            Test t = either(open + "(");
            must(')');
            return t;
        }
        Number a = sum(open);
        char c = sign();
        if (c != '<' && c != '>' && c != '=') throw new Fault(1, at);
        at++;
        Number b = sum(open);
        return m -> {
            int p = a.of(m);
            int q = b.of(m);
            return c == '<' ? p < q : c == '>' ? p > q : p == q;
        };
    }

    private Number sum(String open) {
        Number all = product(open);
        while (sign() == '+' || sign() == '-') {
            boolean plus = sign() == '+';
            at++;
            Number a = all;
            Number b = product(open);
            all = m -> plus ? a.of(m) + b.of(m) : a.of(m) - b.of(m);
        }
        return all;
    }

    private Number product(String open) {
        Number all = factor(open);
        while (sign() == '*' || sign() == '/' || sign() == '%') {
            char c = sign();
            at++;
            Number a = all;
            Number b = factor(open);
            all = m -> {
                int p = a.of(m);
                int q = b.of(m);
                if (c == '*') return p * q;
                if (q == 0) throw new Refused();
                return c == '/' ? p / q : p % q;
            };
        }
        return all;
    }

    private Number factor(String open) {
        if (sign() == '[') {
            deeper(open);
            Number e = sum(open + "[");
            must(']');
            return e;
        }
        if (in(sign(), '0', '9')) {
            int from = at;
            while (in(sign(), '0', '9')) {
                if (at - from == 5) throw new Fault(2, at);
                at++;
            }
            int value = Integer.parseInt(text.substring(from, at));
            return m -> value;
        }
        char c = sign();
        if ("krsoamngcv".indexOf(c) < 0) throw new Fault(1, at);
        at++;
        return m -> m.getOrDefault(c, 0);
    }

    private static boolean holds(Clause c, java.util.Map<Character, Integer> m) {
        try {
            return c.test.of(m);
        } catch (Refused r) {
            return false;
        }
    }

    private int amount(char letter, java.util.Map<Character, Integer> m, int none, int most) {
        for (Clause c : law) {
            if (c.letter == letter && holds(c, m)) {
                try {
                    return Math.max(0, Math.min(most, c.amount.of(m)));
                } catch (Refused r) {
                    return 0;
                }
            }
        }
        return none;
    }

    // ---- lists

    private int[] best;
    private int bestLoss, bestJoined;

    int[] row(Home h) {
        if (h.row == null) {
            best = null;
            tryRows(h, new int[h.first.size()], 0, new boolean[h.last.size()], 0, 0);
            h.row = best;
        }
        return h.row;
    }

    /** Rows come in their order, with nothing behind all, so that the first of like ones stays. */
    private void tryRows(Home h, int[] row, int i, boolean[] used, int loss, int joined) {
        if (best != null && loss > bestLoss) return;
        if (i == row.length) {
            if (best == null || loss < bestLoss || loss == bestLoss && joined > bestJoined) {
                best = row.clone();
                bestLoss = loss;
                bestJoined = joined;
            }
            return;
        }
        Thing a = h.first.get(i);
        for (int j = 0; j < used.length; j++) {
            Thing b = h.last.get(j);
            if (!used[j] && a.room == b.room && a.kind == b.kind) {
                used[j] = true;
                row[i] = j;
                tryRows(h, row, i + 1, used, loss + Math.max(0, a.state - b.state), joined + 1);
                used[j] = false;
            }
        }
        row[i] = -2;
        tryRows(h, row, i + 1, used, loss + a.state, joined);
    }

    private int stateAtLast(Home h, int i) {
        int j = row(h)[i];
        return j < 0 ? 0 : h.last.get(j).state;
    }

    private int change(Home h, int i) {
        int o = stateAtLast(h, i);
        int s = h.first.get(i).state;
        return o == 0 ? 2 : o == s ? 0 : o < s ? 1 : 3;
    }

    private int worth(Home h, int i, int age) {
        int kind = h.first.get(i).kind;
        if (age >= lives[kind]) return 0;
        return (int) ((long) prices[kind][h.region] * (lives[kind] - age) / lives[kind]);
    }

    private int aged(Home h, int i) {
        return h.first.get(i).age + h.to - h.from;
    }

    private java.util.Map<Character, Integer> letters(Home h, int i, Claim c) {
        java.util.Map<Character, Integer> m = new java.util.HashMap<>();
        m.put('m', h.to - h.from);
        m.put('n', h.tenants);
        m.put('g', h.region);
        if (i >= 0) {
            m.put('k', h.first.get(i).kind);
            m.put('r', h.first.get(i).room);
            m.put('s', h.first.get(i).state);
            m.put('o', stateAtLast(h, i));
            m.put('a', aged(h, i));
        }
        if (c != null) {
            m.put('c', c.cause);
            m.put('v', c.evidence);
        }
        return m;
    }

    private int fair(Home h, int i) {
        return amount('f', letters(h, i, null), 0, 9);
    }

    private int lost(Home h, int i) {
        int s = h.first.get(i).state;
        int left = Math.max(0, s - fair(h, i));
        int below = Math.max(0, left - stateAtLast(h, i));
        return (int) ((long) worth(h, i, aged(h, i)) * below / s);
    }

    int thing(int h, int i, int what) {
        if (!isHome(h) || !in(i, 0, homes.get(h).first.size() - 1) || !in(what, 0, 4)) return -1;
        Home home = homes.get(h);
        if (what == 0) return row(home)[i];
        if (what == 1) return change(home, i);
        if (what == 2) return fair(home, i);
        return what == 3 ? worth(home, i, aged(home, i)) : lost(home, i);
    }

    int isNew(int h, int j) {
        if (!isHome(h) || !in(j, 0, homes.get(h).last.size() - 1)) return -1;
        for (int k : row(homes.get(h))) if (k == j) return 0;
        return 1;
    }

    int led(int h, int i, int years) {
        if (!isHome(h) || !in(i, 0, homes.get(h).first.size() - 1) || !in(years, 0, 30)) return -1;
        return worth(homes.get(h), i, homes.get(h).first.get(i).age + 12 * years);
    }

    // ---- claims

    int claim(int h, int i, int cause, int evidence, int day) {
        if (!isHome(h) || !in(i, 0, homes.get(h).first.size() - 1)) return -1;
        if (!in(cause, 0, 9) || !in(evidence, 0, 7) || !in(day, 0, 9999)) return -1;
        for (Claim c : claims) if (c.home == h && c.thing == i) return -2;
        if (claims.size() == 30) return -1;
        Claim c = new Claim();
        c.home = h;
        c.thing = i;
        c.cause = cause;
        c.evidence = evidence;
        c.day = day;
        claims.add(c);
        return claims.size() - 1;
    }

    boolean isClaim(int c) {
        return in(c, 0, claims.size() - 1);
    }

    boolean agree(int c, int pence) {
        if (!isClaim(c) || !in(pence, 0, 999999)) return false;
        claims.get(c).agreed = pence;
        return true;
    }

    boolean answer(int c, int day, boolean proof) {
        if (!isClaim(c) || !in(day, 0, 9999) || day < claims.get(c).day) return false;
        claims.get(c).answered = day;
        claims.get(c).proof = proof;
        return true;
    }

    private int[] awardOf(Claim c, int day) {
        Home h = homes.get(c.home);
        int lost = lost(h, c.thing);
        if (lost == 0) return new int[] {0, 1};
        if (c.agreed >= lost) return new int[] {lost, 2};
        java.util.Map<Character, Integer> m = letters(h, c.thing, c);
        if (c.answered == -1 || c.answered > day) {
            return day - c.day > amount('d', m, 999, 999) ? new int[] {lost, 3} : new int[] {c.agreed, 4};
        }
        int part = Math.max(c.agreed, (int) ((long) lost * amount('p', m, 100, 100) / 100));
        for (Clause k : law) {
            if (k.letter == 'b' && holds(k, m)) {
                return c.proof ? new int[] {c.agreed, 6} : new int[] {part, 5};
            }
        }
        boolean proved = c.evidence == 3 || c.evidence == 5 || c.evidence == 7;
        return proved ? new int[] {part, 7} : new int[] {c.agreed, 8};
    }

    int award(int c, int day, int what) {
        if (!isClaim(c) || !in(day, 0, 9999) || !in(what, 0, 1)) return -1;
        if (claims.get(c).day > day) return -2;
        return awardOf(claims.get(c), day)[what];
    }

    private int awards(int h, int day) {
        int all = 0;
        for (Claim c : claims) if (c.home == h && c.day <= day) all += awardOf(c, day)[0];
        return all;
    }

    private int penalty(Home h) {
        return h.kept ? 0 : amount('t', letters(h, -1, null), 0, 9) * h.deposit;
    }

    private int toOwner(int h, int day) {
        Home home = homes.get(h);
        return Math.min(home.deposit, awards(h, day) + home.owes[0] + home.owes[1] + home.owes[2]);
    }

    private int[] shares(int h, int day) {
        Home home = homes.get(h);
        long pence = home.deposit - toOwner(h, day) + penalty(home);
        int[] parts = Arrays.copyOf(home.parts, home.tenants);
        if (Arrays.stream(parts).sum() == 0) Arrays.fill(parts, 1);
        long all = Arrays.stream(parts).sum();
        int[] shares = new int[parts.length];
        List<Integer> order = new ArrayList<>();
        long left = pence;
        for (int t = 0; t < parts.length; t++) {
            shares[t] = (int) (pence * parts[t] / all);
            left -= shares[t];
            order.add(t);
        }
        order.sort((a, b) -> Long.compare(pence * parts[b] % all, pence * parts[a] % all));
        for (int k = 0; k < left; k++) shares[order.get(k)]++;
        return shares;
    }

    int judged(int h, int day, int what) {
        if (!isHome(h) || !in(day, 0, 9999)) return -1;
        Home home = homes.get(h);
        if (what == 0) return toOwner(h, day);
        if (what == 1) return home.deposit - toOwner(h, day);
        if (what == 2) return penalty(home);
        if (what == 3) return awards(h, day);
        return in(what, 10, 9 + home.tenants) ? shares(h, day)[what - 10] : -1;
    }

    int byKind(int kind, int day) {
        if (!in(kind, 0, 7) || !in(day, 0, 9999)) return -1;
        int all = 0;
        for (Claim c : claims) {
            if (homes.get(c.home).first.get(c.thing).kind == kind && c.day <= day) all += awardOf(c, day)[0];
        }
        return all;
    }

    int check(int h, int day, int n) {
        if (!isHome(h) || !in(day, 0, 9999) || !in(n, 0, 4) || tape.size() < 4 * n) return -2;
        List<Integer> numbers = new ArrayList<>();
        for (int k = 0; k < n; k++) {
            int number = 0;
            for (int b = 0; b < 4; b++) number = number * 256 + tape.get(4 * k + b);
            numbers.add(number);
        }
        tape.clear();
        int[] shares = shares(h, day);
        for (int k = 0; k < Math.min(n, shares.length); k++) if (numbers.get(k) != shares[k]) return k;
        return n == shares.length ? -1 : Math.min(n, shares.length);
    }

    // ---- offers, judges

    int offer(int h, boolean owner, int pence) {
        if (!isHome(h) || !in(pence, 0, 999999)) return -1;
        offers[h][owner ? 0 : 1] = pence;
        return offers[h][0] >= 0 && offers[h][1] >= 0 ? 1 : 0;
    }

    int met(int h) {
        if (!isHome(h)) return -1;
        if (offers[h][0] < 0 || offers[h][1] < 0) return -2;
        if (offers[h][0] <= offers[h][1]) return (offers[h][0] + offers[h][1]) / 2;
        offers[h] = new int[] {-1, -1};
        return -3;
    }

    boolean kin(int judge, int h, boolean is) {
        if (!isHome(h) || !in(judge, 0, 5) || homes.get(h).kin[judge] == is) return false;
        homes.get(h).kin[judge] = is;
        return true;
    }

    boolean seed(int s) {
        if (!in(s, 0, 65535)) return false;
        x = s;
        return true;
    }

    int draw(int h) {
        if (!isHome(h)) return -1;
        boolean all = true;
        for (boolean k : homes.get(h).kin) all &= k;
        if (all) return -2;
        do {
            x = (int) ((25173L * x + 13849) % 65536);
        } while (homes.get(h).kin[x % 6]);
        return x % 6;
    }

    int twice(int a, int b, int byA, int byB) {
        if (!in(a, 0, 5) || !in(b, 0, 5) || a == b || !in(byA, 0, 9999) || !in(byB, 0, 9999)) return -1;
        if (doubles.size() == 40) return -1;
        doubles.add(new int[] {a, b, byA, byB});
        return doubles.size();
    }

    int spread(int judge, int what) {
        int many = 0;
        int apart = 0;
        int more = 0;
        for (int[] d : doubles) {
            if (d[0] == judge || d[1] == judge) {
                many++;
                apart += Math.abs(d[2] - d[3]);
                more += d[0] == judge ? d[2] - d[3] : d[3] - d[2];
            }
        }
        if (many == 0 || !in(what, 0, 3)) return -1000000;
        int above = what < 2 ? apart : more;
        int below = many;
        for (int k = many; k > 1; k--) {
            if (above % k == 0 && below % k == 0) {
                above /= k;
                below /= k;
            }
        }
        return what % 2 == 0 ? above : below;
    }

    int like(int h, int what) {
        if (!isHome(h) || !in(what, 0, 1)) return -1;
        int[] best = {-2, -2};
        for (int g = 0; g < homes.size(); g++) {
            if (g == h) continue;
            int d = Math.abs(homes.get(g).to - homes.get(g).from - homes.get(h).to + homes.get(h).from) / 12;
            int[] more = new int[8];
            for (int i = 0; i < homes.get(h).first.size(); i++) {
                if (change(homes.get(h), i) % 3 != 0) more[homes.get(h).first.get(i).kind]++;
            }
            for (int i = 0; i < homes.get(g).first.size(); i++) {
                if (change(homes.get(g), i) % 3 != 0) more[homes.get(g).first.get(i).kind]--;
            }
            for (int m : more) d += 10 * Math.abs(m);
            if (best[0] == -2 || d < best[1]) best = new int[] {g, d};
        }
        return best[what];
    }

    // ---- pictures

    int fact(int a, int b, int days) {
        if (!in(a, 0, 10) || !in(b, 0, 10) || a == b || !in(days, -999, 999) || facts.size() == 30) return -1;
        facts.add(new int[] {a, b, days});
        return facts.size();
    }

    private static final long FAR = -1L << 40;

    /** The longest ways from one picture on by some facts; null: they can't be together. */
    private static long[] ways(List<int[]> some, int from) {
        long[] way = new long[11];
        Arrays.fill(way, FAR);
        way[from] = 0;
        for (int round = 0; round < 12; round++) {
            boolean changed = false;
            for (int[] f : some) {
                if (way[f[0]] != FAR && way[f[0]] + f[2] > way[f[1]]) {
                    way[f[1]] = way[f[0]] + f[2];
                    changed = true;
                }
            }
            if (!changed) return way;
        }
        return null;
    }

    private List<int[]> good() {
        List<int[]> good = new ArrayList<>();
        for (int[] f : facts) {
            good.add(f);
            for (int p = 0; p <= 10; p++) {
                if (ways(good, p) == null) {
                    good.remove(good.size() - 1);
                    break;
                }
            }
        }
        return good;
    }

    int dated(int picture, int what) {
        if (!in(picture, 0, 9) || !in(what, 0, 1)) return -100000;
        long way = what == 0 ? ways(good(), 10)[picture] : ways(good(), picture)[10];
        return way == FAR ? -100000 : (int) (what == 0 ? way : -way);
    }

    int wrong(int what) {
        List<int[]> good = good();
        List<Integer> wrong = new ArrayList<>();
        for (int k = 0; k < facts.size(); k++) if (!good.contains(facts.get(k))) wrong.add(k);
        if (what == -1) return wrong.size();
        return in(what, 0, wrong.size() - 1) ? wrong.get(what) : -1;
    }

    // ---- kept and undone

    int keep() {
        keptClaims = copy(claims);
        keptOffers = copy(offers);
        keptX = x;
        return claims.size();
    }

    boolean undo() {
        if (keptClaims == null) return false;
        claims = copy(keptClaims);
        offers = copy(keptOffers);
        x = keptX;
        return true;
    }

    private static List<Claim> copy(List<Claim> from) {
        List<Claim> to = new ArrayList<>();
        for (Claim c : from) to.add(c.copy());
        return to;
    }

    private static int[][] copy(int[][] from) {
        int[][] to = new int[from.length][];
        for (int k = 0; k < to.length; k++) to[k] = from[k].clone();
        return to;
    }

    int count(int what) {
        if (what == 0) return homes.size();
        if (what == 1) return claims.size();
        if (what == 2) return law.size();
        if (what == 3) return tape.size();
        if (what == 4) return doubles.size();
        if (what == 5) return facts.size();
        if (what == 6) return x;
        if (in(what, 10, 15) && isHome(what - 10)) return homes.get(what - 10).first.size();
        if (in(what, 20, 25) && isHome(what - 20)) return homes.get(what - 20).last.size();
        return what >= 30 && isClaim(what - 30) ? claims.get(what - 30).home : -1;
    }
}
