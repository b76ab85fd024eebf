/** Objects that many tests begin with. */
final class Cases {
    private Cases() {
    }

    /** One home in region 0 of no months and no deposit, one tenant. */
    static DepositJudge withHome() {
        DepositJudge x = new DepositJudge();
        x.home(0, 1, 0, 0, 0, true);
        return x;
    }

    static DepositJudge withHomes(int many) {
        DepositJudge x = new DepositJudge();
        for (int h = 0; h < many; h++) {
            x.home(0, 1, 100, 0, 0, true);
        }
        return x;
    }

    /** Things of one room and kind in a home, with these states at first and at last. */
    static DepositJudge joined(int[] before, int... after) {
        DepositJudge x = withHome();
        for (int state : before) {
            x.first(0, 3, 2, state, 0);
        }
        for (int state : after) {
            x.last(0, 3, 2, state);
        }
        return x;
    }

    static int[] row(DepositJudge x, int many) {
        int[] row = new int[many];
        for (int i = 0; i < many; i++) {
            row[i] = x.thing(0, i, 0);
        }
        return row;
    }

    /**
     * A home in region 2 with three tenants, 30 months, a deposit of 100 that was not kept; its thing 0 is of kind 3 in
     * room 7, 6 at first, 2 at last, 35 months old when aged, and worth 7000 - 7000 * 35 / 70 = 3500 then.
     */
    static DepositJudge lettered() {
        DepositJudge x = new DepositJudge();
        x.life(3, 70);
        x.price(3, 2, 7000);
        x.home(2, 3, 100, 10, 40, false);
        x.first(0, 7, 3, 6, 5);
        x.last(0, 7, 3, 2);
        return x;
    }

    /** Fair wear of that thing by a law. */
    static int wear(String law) {
        DepositJudge x = lettered();
        return Due.law(x, law) > 0 ? x.thing(0, 0, 2) : Integer.MIN_VALUE;
    }

    static boolean holds(String test) {
        return wear("f7(" + test + ")") == 7;
    }

    /** Things 0 to 3 of one home, worth 1000 each and 5 at first, all gone; the home is of no months. */
    static DepositJudge court() {
        DepositJudge x = new DepositJudge();
        x.price(0, 0, 1000);
        x.home(0, 2, 5000, 0, 0, true);
        for (int room = 0; room < 4; room++) {
            x.first(0, room, 0, 5, 0);
        }
        return x;
    }

    /** Its thing 0 claimed on day 10, with a cause and evidence. */
    static DepositJudge claimed(int cause, int evidence) {
        DepositJudge x = court();
        x.claim(0, 0, cause, evidence, 10);
        return x;
    }
}
