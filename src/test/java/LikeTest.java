/** Promises 26 to 29: like homes, facts of pictures, their days, wrong facts. */
public final class LikeTest {
    private static final Due due = new Due();

    public static void main(String[] args) {
        like();
        likeRefusals();
        facts();
        dated();
        wrong();
        wrongCountsNot();
        due.end();
    }

    private static void like(DepositJudge x, int h, int which, int distance) {
        due.is("26 like " + h, x.like(h, 0), which);
        due.is("26 distance of " + h, x.like(h, 1), distance);
    }

    private static void like() {
        DepositJudge x = new DepositJudge();
        x.home(0, 1, 0, 0, 24, true);
        like(x, 0, -2, -2);
        x.home(3, 4, 999, 100, 135, false);
        like(x, 0, 1, 0);
        like(x, 1, 0, 0);
        x.home(0, 1, 0, 0, 12, true);
        like(x, 0, 1, 0);
        like(x, 2, 0, 1);
        x.first(1, 0, 5, 4, 0);
        like(x, 0, 2, 1);
        like(x, 1, 0, 10);
        x.last(1, 0, 5, 4);
        like(x, 1, 0, 0);
        x.first(1, 0, 5, 4, 0);
        x.last(1, 0, 5, 9);
        like(x, 1, 0, 0);
        x.first(1, 1, 5, 4, 0);
        x.first(1, 2, 5, 4, 0);
        x.last(1, 2, 5, 3);
        x.first(1, 2, 6, 4, 0);
        like(x, 1, 0, 30);
        x.first(0, 9, 6, 4, 0);
        like(x, 1, 0, 20);
        like(x, 0, 2, 11);
        x.first(0, 9, 7, 4, 0);
        like(x, 1, 0, 30);
        x.home(0, 1, 0, 0, 999, true);
        like(x, 3, 2, (999 - 12) / 12);
        like(x, 2, 0, 21);
    }

    private static void likeRefusals() {
        DepositJudge x = new DepositJudge();
        due.is("26 no home", x.like(0, 0), -1);
        x.home(0, 1, 0, 0, 24, true);
        due.is("26 no such what", x.like(0, 2), -1);
        due.is("26 no such what", x.like(0, -1), -1);
        due.is("26 no such home", x.like(1, 0), -1);
        due.is("26 no such home", x.like(-1, 0), -1);
        x.home(0, 1, 0, 0, 24, true);
        due.is("26 no such what", x.like(0, 2), -1);
        due.is("26 the lowest of like ones", x.like(1, 0), 0);
        x.home(0, 1, 0, 0, 24, true);
        due.is("26 the lowest of like ones", x.like(0, 0), 1);
        due.is("26 the lowest of like ones", x.like(2, 0), 0);
    }

    private static void facts() {
        DepositJudge x = new DepositJudge();
        due.is("27 one twice", x.fact(3, 3, 0), -1);
        due.is("27 day 0 twice", x.fact(10, 10, 0), -1);
        due.is("27 no such picture", x.fact(-1, 3, 0), -1);
        due.is("27 no such picture", x.fact(11, 3, 0), -1);
        due.is("27 no such picture", x.fact(3, -1, 0), -1);
        due.is("27 no such picture", x.fact(3, 11, 0), -1);
        due.is("27 too many days", x.fact(0, 1, 1000), -1);
        due.is("27 too few days", x.fact(0, 1, -1000), -1);
        due.is("27 none yet", x.count(5), 0);
        for (int k = 1; k <= 30; k++) {
            due.is("27 fact", x.fact(k % 10, k % 10 + 1, k % 2 == 0 ? 999 : -999), k);
        }
        due.is("27 a 31st", x.fact(0, 1, 1), -1);
        due.is("27 thirty", x.count(5), 30);
    }

    private static void dated(DepositJudge x, int picture, int earliest, int latest) {
        due.is("28 earliest of " + picture, x.dated(picture, 0), earliest);
        due.is("28 latest of " + picture, x.dated(picture, 1), latest);
    }

    private static void dated() {
        DepositJudge x = new DepositJudge();
        int no = -100000;
        dated(x, 0, no, no);
        x.fact(0, 1, 5);
        dated(x, 1, no, no);
        x.fact(10, 0, 7);
        dated(x, 0, 7, no);
        dated(x, 1, 12, no);
        x.fact(2, 1, -30);
        dated(x, 2, no, no);
        x.fact(1, 10, -50);
        dated(x, 1, 12, 50);
        dated(x, 0, 7, 45);
        dated(x, 2, no, 80);
        x.fact(10, 1, 20);
        dated(x, 1, 20, 50);
        dated(x, 0, 7, 45);
        x.fact(0, 10, 3);
        due.is("29 it can't be", x.wrong(-1), 1);
        dated(x, 0, 7, 45);
        x.fact(3, 10, 4);
        dated(x, 3, no, -4);
        x.fact(10, 3, -4);
        dated(x, 3, -4, -4);
        for (int p = 4; p < 9; p++) {
            x.fact(p, p + 1, 999);
        }
        x.fact(3, 4, 999);
        dated(x, 9, -4 + 6 * 999, no);
        x.fact(9, 10, -999);
        due.is("29 too late", x.wrong(-1), 2);
        due.is("28 no such picture", x.dated(10, 0), no);
        due.is("28 no such picture", x.dated(-1, 0), no);
        due.is("28 no such what", x.dated(0, 2), no);
        due.is("28 no such what", x.dated(0, -1), no);
    }

    private static void wrong() {
        DepositJudge x = new DepositJudge();
        due.is("29 none", x.wrong(-1), 0);
        due.is("29 no such one", x.wrong(0), -1);
        x.fact(0, 1, 3);
        due.is("29 just so", x.fact(1, 0, -3), 2);
        due.is("29 none", x.wrong(-1), 0);
        x.fact(1, 0, -2);
        due.is("29 one", x.wrong(-1), 1);
        due.is("29 which", x.wrong(0), 2);
        x.fact(1, 2, 4);
        x.fact(2, 0, -7);
        due.is("29 none more", x.wrong(-1), 1);
        x.fact(2, 0, -6);
        due.is("29 round three", x.wrong(-1), 2);
        due.is("29 which", x.wrong(1), 5);
        due.is("29 no such one", x.wrong(2), -1);
        due.is("29 no such one", x.wrong(-2), -1);
        due.is("29 no such one", x.wrong(Integer.MAX_VALUE), -1);
        due.is("29 no such one", x.wrong(Integer.MIN_VALUE), -1);
    }

    /** A wrong fact must not make a later one wrong. */
    private static void wrongCountsNot() {
        DepositJudge x = new DepositJudge();
        x.fact(0, 1, 10);
        x.fact(1, 0, 10);
        x.fact(0, 1, 0);
        x.fact(1, 0, -15);
        due.is("29 one", x.wrong(-1), 1);
        due.is("29 which", x.wrong(0), 1);
        x.fact(10, 0, 1);
        dated(x, 0, 1, -100000);
        dated(x, 1, 11, -100000);
        x.fact(0, 10, -1);
        dated(x, 0, 1, 1);
        dated(x, 1, 11, 16);
        for (int k = 0; k < 24; k++) {
            x.fact(1, 0, 0);
        }
        due.is("29 all but five", x.wrong(-1), 25);
        due.is("29 the last", x.wrong(24), 29);
    }
}
