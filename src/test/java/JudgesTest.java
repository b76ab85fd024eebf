/** Promises 19 to 25: offers, kin, the seed, judges drawn, doubles and their spread. */
public final class JudgesTest {
    private static final Due due = new Due();

    public static void main(String[] args) {
        offers();
        kin();
        seeds();
        draws();
        doubles();
        spreads();
        due.end();
    }

    private static DepositJudge withHomes(int many) {
        DepositJudge x = new DepositJudge();
        for (int h = 0; h < many; h++) {
            x.home(0, 1, 100, 0, 1, true);
        }
        return x;
    }

    private static void offers() {
        DepositJudge x = withHomes(2);
        due.is("20 no such home", x.met(2), -1);
        due.is("20 no such home", x.met(-1), -1);
        due.is("20 both lack", x.met(0), -2);
        due.is("19 no such home", x.offer(2, true, 1), -1);
        due.is("19 no such home", x.offer(-1, true, 1), -1);
        due.is("19 below 0", x.offer(0, true, -1), -1);
        due.is("19 too much", x.offer(0, true, 1000000), -1);
        due.is("19 not yet", x.offer(0, true, 0), 0);
        due.is("19 not yet, in its place", x.offer(0, true, 5), 0);
        due.is("20 one lacks", x.met(0), -2);
        due.is("19 of another home", x.offer(1, false, 9), 0);
        due.is("20 one lacks", x.met(1), -2);
        due.is("19 both", x.offer(0, false, 10), 1);
        due.is("20 the middle, rounded down", x.met(0), 7);
        due.is("20 it stays so", x.met(0), 7);
        due.is("19 in its place", x.offer(0, true, 10), 1);
        due.is("20 just met", x.met(0), 10);
        due.is("19 in its place", x.offer(0, true, 11), 1);
        due.is("20 they do not meet", x.met(0), -3);
        due.is("20 both fall", x.met(0), -2);
        due.is("19 both fell", x.offer(0, false, 50), 0);
        due.is("19 both again", x.offer(0, true, 40), 1);
        due.is("20 met", x.met(0), 45);
        due.is("19 greatest", x.offer(1, false, 999999), 0);
        due.is("19 greatest", x.offer(1, true, 999999), 1);
        due.is("20 greatest", x.met(1), 999999);
        due.is("19 nothing", x.offer(1, true, 0), 1);
        due.is("20 rounded down", x.met(1), 499999);
        due.is("19 nothing", x.offer(1, false, 0), 1);
        due.is("20 nothing", x.met(1), 0);
    }

    private static void kin() {
        DepositJudge x = withHomes(2);
        due.no("21 is none", x.kin(0, 0, false));
        due.yes("21 kin", x.kin(0, 0, true));
        due.no("21 is so", x.kin(0, 0, true));
        due.yes("21 no more", x.kin(0, 0, false));
        due.no("21 is none", x.kin(0, 0, false));
        due.yes("21 of another home", x.kin(0, 1, true));
        due.yes("21 the last judge", x.kin(5, 1, true));
        due.no("21 no such judge", x.kin(6, 0, true));
        due.no("21 no such judge", x.kin(-1, 0, true));
        due.no("21 no such home", x.kin(0, 2, true));
        due.no("21 no such home", x.kin(0, -1, true));
        due.no("21 no such home, no such kin", x.kin(0, 2, false));
    }

    private static void seeds() {
        DepositJudge x = withHomes(1);
        due.yes("22 least", x.seed(0));
        due.is("22 X too", x.count(6), 0);
        due.is("22 drawn", x.draw(0), 1);
        due.is("22 X", x.count(6), 13849);
        due.yes("22 greatest", x.seed(65535));
        due.is("22 X too", x.count(6), 65535);
        due.is("22 drawn", x.draw(0), 54212 % 6);
        due.is("22 X", x.count(6), 54212);
        due.no("22 too great", x.seed(65536));
        due.no("22 below 0", x.seed(-1));
        due.is("22 X stays", x.count(6), 54212);
    }

    private static void draws() {
        DepositJudge x = withHomes(2);
        due.is("23 no such home", x.draw(2), -1);
        due.is("23 no such home", x.draw(-1), -1);
        due.is("23 X stays", x.count(6), 1);
        due.is("23 drawn", x.draw(0), 4);
        due.is("23 X", x.count(6), 39022);
        x.seed(1);
        x.kin(4, 0, true);
        due.is("23 no kin", x.draw(0), 1);
        due.is("23 X", x.count(6), 61087);
        x.seed(1);
        due.is("23 kin of another home", x.draw(1), 4);
        for (int judge = 0; judge < 6; judge++) {
            x.kin(judge, 0, true);
        }
        due.is("23 all are kin", x.draw(0), -2);
        due.is("23 X stays", x.count(6), 39022);
        for (int judge = 0; judge < 6; judge++) {
            x.kin(judge, 0, false);
            for (int seed = 0; seed < 40; seed++) {
                x.seed(1234 * seed);
                due.is("23 the only one", x.draw(0), judge);
                long want = 1234 * seed;
                do {
                    want = (25173 * want + 13849) % 65536;
                } while (want % 6 != judge);
                if (seed < 20) {
                    due.is("23 X", x.count(6), want);
                }
            }
            x.kin(judge, 0, true);
            x = judge == 2 ? allKin() : x;
        }
    }

    private static DepositJudge allKin() {
        DepositJudge x = withHomes(1);
        for (int judge = 0; judge < 6; judge++) {
            x.kin(judge, 0, true);
        }
        return x;
    }

    private static void doubles() {
        DepositJudge x = new DepositJudge();
        due.is("24 one twice", x.twice(0, 0, 1, 1), -1);
        due.is("24 no such judge", x.twice(-1, 0, 1, 1), -1);
        due.is("24 no such judge", x.twice(6, 0, 1, 1), -1);
        due.is("24 no such judge", x.twice(0, -1, 1, 1), -1);
        due.is("24 no such judge", x.twice(0, 6, 1, 1), -1);
        due.is("24 below 0", x.twice(0, 1, -1, 1), -1);
        due.is("24 below 0", x.twice(0, 1, 1, -1), -1);
        due.is("24 too much", x.twice(0, 1, 10000, 1), -1);
        due.is("24 too much", x.twice(0, 1, 1, 10000), -1);
        due.is("24 none yet", x.count(4), 0);
        for (int k = 1; k <= 40; k++) {
            due.is("24 double", x.twice(5, 4, 9999, 0), k);
        }
        due.is("24 a 41st", x.twice(0, 1, 1, 1), -1);
        due.is("24 forty", x.count(4), 40);
        due.is("25 forty", x.spread(5, 0), 9999);
        due.is("25 forty", x.spread(5, 1), 1);
        due.is("25 forty", x.spread(4, 2), -9999);
        due.is("25 none of the 41st", x.spread(0, 0), -1000000);
    }

    private static void spread(DepositJudge x, int judge, int... want) {
        for (int what = 0; what < 4; what++) {
            due.is("25 judge " + judge + ", what " + what, x.spread(judge, what), want[what]);
        }
    }

    private static void spreads() {
        DepositJudge x = new DepositJudge();
        spread(x, 0, -1000000, -1000000, -1000000, -1000000);
        x.twice(0, 1, 7, 7);
        spread(x, 0, 0, 1, 0, 1);
        x.twice(1, 0, 9, 6);
        spread(x, 0, 3, 2, -3, 2);
        spread(x, 1, 3, 2, 3, 2);
        x.twice(0, 2, 9, 6);
        spread(x, 0, 2, 1, 0, 1);
        spread(x, 2, 3, 1, -3, 1);
        x.twice(3, 0, 0, 4);
        spread(x, 0, 5, 2, 1, 1);
        spread(x, 3, 4, 1, -4, 1);
        x.twice(0, 5, 100, 200);
        x.twice(5, 0, 4, 0);
        spread(x, 0, 19, 1, -50, 3);
        due.is("25 no such judge", x.spread(6, 0), -1000000);
        due.is("25 no such judge", x.spread(-1, 0), -1000000);
        due.is("25 no such what", x.spread(0, 4), -1000000);
        due.is("25 no such what", x.spread(0, -1), -1000000);
    }
}
