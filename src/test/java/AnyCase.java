import java.util.Random;

/** Homes, lists, a law, claims and answers by chance, so that much is judged. */
final class AnyCase {
    final DepositJudge judge = new DepositJudge();
    /** For each claim the thing that it is for. */
    final int[] things = new int[30];

    AnyCase(Random random) {
        prices(random);
        Due.law(judge, "f" + random.nextInt(4) + "(k<" + random.nextInt(8) + ");p" + random.nextInt(101) + "(c>v);d"
                + random.nextInt(40) + "(r<5);b(c<" + random.nextInt(9) + ");t" + random.nextInt(10) + "(n>1)");
        int homes = 1 + random.nextInt(6);
        for (int h = 0; h < homes; h++) {
            home(h, random);
        }
        for (int turn = 0; turn < 30; turn++) {
            claim(random.nextInt(homes), random.nextInt(8), random);
        }
    }

    private void prices(Random random) {
        for (int kind = 0; kind < 8; kind++) {
            judge.life(kind, 1 + random.nextInt(360));
            for (int region = 0; region < 4; region++) {
                judge.price(kind, region, random.nextInt(100000));
            }
        }
    }

    private void home(int h, Random random) {
        int from = random.nextInt(100);
        judge.home(random.nextInt(4), 1 + random.nextInt(4), random.nextInt(1000000), from, from + random.nextInt(60),
                random.nextBoolean());
        for (int t = 0; t < 4; t++) {
            judge.part(h, t, random.nextInt(5));
        }
        judge.owes(h, random.nextInt(3), random.nextInt(50000));
        for (int i = 0; i < 8; i++) {
            judge.first(h, random.nextInt(2), random.nextInt(3), 1 + random.nextInt(9), random.nextInt(60));
            judge.last(h, random.nextInt(2), random.nextInt(3), 1 + random.nextInt(9));
        }
    }

    private void claim(int h, int i, Random random) {
        int made = judge.claim(h, i, random.nextInt(10), random.nextInt(8), random.nextInt(50));
        if (made < 0) {
            return;
        }
        things[made] = i;
        judge.agree(made, random.nextInt(20000));
        if (random.nextBoolean()) {
            judge.answer(made, random.nextInt(100), random.nextBoolean());
        }
    }
}
