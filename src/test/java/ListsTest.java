import java.util.ArrayList;
import java.util.Arrays;
import java.util.Collections;
import java.util.List;
import java.util.Random;

/** Promises 7, 8, 11, 12, 13: the two lists, how they are joined, what is new, what a thing is worth. */
public final class ListsTest {
    private static final Due due = new Due();

    public static void main(String[] args) {
        firstList();
        lastList();
        changes();
        leastLost();
        leastRow();
        onlyOfOneRoomAndKind();
        worthAtAnAge();
        lostByThings();
        refusals();
        longLists();
        due.end();
    }

    private static DepositJudge withHome() {
        DepositJudge x = new DepositJudge();
        x.home(0, 1, 0, 0, 0, true);
        return x;
    }

    private static void firstList() {
        DepositJudge x = withHome();
        due.is("7 no home", x.first(1, 0, 0, 1, 0), -1);
        due.is("7 no home", x.first(-1, 0, 0, 1, 0), -1);
        due.is("7 room below", x.first(0, -1, 0, 1, 0), -1);
        due.is("7 room above", x.first(0, 10, 0, 1, 0), -1);
        due.is("7 kind below", x.first(0, 0, -1, 1, 0), -1);
        due.is("7 kind above", x.first(0, 0, 8, 1, 0), -1);
        due.is("7 state below", x.first(0, 0, 0, 0, 0), -1);
        due.is("7 state above", x.first(0, 0, 0, 10, 0), -1);
        due.is("7 age below", x.first(0, 0, 0, 1, -1), -1);
        due.is("7 age above", x.first(0, 0, 0, 1, 361), -1);
        due.is("7 none yet", x.count(10), 0);
        due.is("7 least", x.first(0, 0, 0, 1, 0), 0);
        due.is("7 greatest", x.first(0, 9, 7, 9, 360), 1);
        for (int i = 2; i < 20; i++) {
            due.is("7 thing", x.first(0, 1, 1, 1, 1), i);
        }
        due.is("7 a 21st", x.first(0, 1, 1, 1, 1), -1);
        due.is("7 twenty", x.count(10), 20);
        due.is("7 none at last", x.count(20), 0);
    }

    private static void lastList() {
        DepositJudge x = withHome();
        due.is("8 no home", x.last(1, 0, 0, 1), -1);
        due.is("8 room below", x.last(0, -1, 0, 1), -1);
        due.is("8 room above", x.last(0, 10, 0, 1), -1);
        due.is("8 kind below", x.last(0, 0, -1, 1), -1);
        due.is("8 kind above", x.last(0, 0, 8, 1), -1);
        due.is("8 state below", x.last(0, 0, 0, 0), -1);
        due.is("8 state above", x.last(0, 0, 0, 10), -1);
        due.is("8 none yet", x.count(20), 0);
        due.is("8 least", x.last(0, 0, 0, 1), 0);
        due.is("8 greatest", x.last(0, 9, 7, 9), 1);
        for (int j = 2; j < 20; j++) {
            due.is("8 thing", x.last(0, 1, 1, 1), j);
        }
        due.is("8 a 21st", x.last(0, 1, 1, 1), -1);
        due.is("8 twenty", x.count(20), 20);
        due.is("8 none at first", x.count(10), 0);
    }

    private static DepositJudge joined(int[] before, int[] after) {
        DepositJudge x = withHome();
        for (int state : before) {
            x.first(0, 3, 2, state, 0);
        }
        for (int state : after) {
            x.last(0, 3, 2, state);
        }
        return x;
    }

    private static void row(String name, int[] before, int[] after, int... want) {
        DepositJudge x = joined(before, after);
        for (int i = 0; i < want.length; i++) {
            due.is("11 " + name + ": thing " + i + " of " + Arrays.toString(before) + " " + Arrays.toString(after),
                    x.thing(0, i, 0), want[i]);
        }
        for (int j = 0; j < after.length; j++) {
            int at = j;
            boolean isJoined = Arrays.stream(want).anyMatch(k -> k == at);
            due.is("12 " + name + ": new " + j, x.isNew(0, j), isJoined ? 0 : 1);
        }
    }

    private static void changes() {
        DepositJudge x = joined(new int[] {5}, new int[] {5});
        due.is("11 as it was", x.thing(0, 0, 1), 0);
        x = joined(new int[] {5}, new int[] {4});
        due.is("11 worse", x.thing(0, 0, 1), 1);
        x = joined(new int[] {5}, new int[] {});
        due.is("11 gone", x.thing(0, 0, 1), 2);
        due.is("11 joined to none", x.thing(0, 0, 0), -2);
        x = joined(new int[] {5}, new int[] {6});
        due.is("11 better", x.thing(0, 0, 1), 3);
    }

    private static void leastLost() {
        row("crossed", new int[] {2, 9}, new int[] {9, 2}, 1, 0);
        row("the dearest stays", new int[] {3, 8}, new int[] {4}, -2, 0);
        row("one more at last", new int[] {7}, new int[] {3, 7, 9}, 1);
        row("the best but one", new int[] {9}, new int[] {1, 8, 2}, 1);
        row("three", new int[] {9, 5, 4}, new int[] {4, 6}, 1, 0, -2);
    }

    private static void leastRow() {
        row("like ones", new int[] {5, 5}, new int[] {5, 5}, 0, 1);
        row("all better", new int[] {1, 1, 1}, new int[] {9, 8, 7}, 0, 1, 2);
        row("the first is joined", new int[] {4, 4}, new int[] {4}, 0, -2);
        row("any will do", new int[] {5}, new int[] {6, 5}, 0);
        row("nothing behind all", new int[] {2, 3}, new int[] {1}, 0, -2);
        row("as much lost either way", new int[] {6, 8}, new int[] {3, 5}, 0, 1);
        row("the later one is joined, if less is lost so", new int[] {2, 5, 2}, new int[] {5, 1}, 1, 0, -2);
    }

    private static void onlyOfOneRoomAndKind() {
        DepositJudge x = withHome();
        x.first(0, 1, 1, 5, 0);
        x.last(0, 2, 1, 5);
        x.last(0, 1, 2, 5);
        due.is("11 another room or kind", x.thing(0, 0, 0), -2);
        due.is("12 new", x.isNew(0, 0), 1);
        due.is("12 new", x.isNew(0, 1), 1);
        x.last(0, 1, 1, 1);
        due.is("11 its own", x.thing(0, 0, 0), 2);
        due.is("12 not new", x.isNew(0, 2), 0);
        x.first(0, 1, 2, 5, 0);
        due.is("11 joined when it comes", x.thing(0, 1, 0), 1);
        due.is("12 no more new", x.isNew(0, 1), 0);
        x.home(0, 1, 0, 0, 0, true);
        x.last(1, 1, 1, 9);
        due.is("11 of one home alone", x.thing(0, 0, 0), 2);
    }

    private static void worthAtAnAge() {
        DepositJudge x = new DepositJudge();
        x.life(4, 100);
        x.price(4, 2, 999);
        x.home(2, 1, 0, 7, 40, true);
        x.first(0, 0, 4, 9, 20);
        due.is("11 worth aged", x.thing(0, 0, 3), 469);
        due.is("13 at first", x.led(0, 0, 0), 799);
        due.is("13 after a year", x.led(0, 0, 1), 679);
        due.is("13 after six", x.led(0, 0, 6), 79);
        due.is("13 after seven", x.led(0, 0, 7), 0);
        due.is("13 after thirty", x.led(0, 0, 30), 0);
        x.life(4, 53);
        due.is("11 worth from its life on", x.thing(0, 0, 3), 0);
        x.life(4, 54);
        due.is("11 worth a month before", x.thing(0, 0, 3), 18);
        x.life(4, 360);
        x.price(4, 2, 99999);
        due.is("11 the dearest", x.thing(0, 0, 3), 85276);
    }

    private static void lostByThings() {
        DepositJudge x = new DepositJudge();
        x.price(0, 0, 1000);
        x.home(0, 1, 0, 0, 0, true);
        x.first(0, 0, 0, 7, 0);
        x.first(0, 1, 0, 7, 0);
        x.first(0, 2, 0, 7, 0);
        x.last(0, 0, 0, 4);
        x.last(0, 1, 0, 9);
        due.is("11 no fair wear without a law", x.thing(0, 0, 2), 0);
        due.is("11 lost", x.thing(0, 0, 4), 428);
        due.is("11 better loses nothing", x.thing(0, 1, 4), 0);
        due.is("11 gone loses all", x.thing(0, 2, 4), 1000);
        Due.law(x, "f2(k=0)");
        due.is("11 f", x.thing(0, 0, 2), 2);
        due.is("11 less fair wear", x.thing(0, 0, 4), 142);
        due.is("11 better still", x.thing(0, 1, 4), 0);
        due.is("11 gone, less fair wear", x.thing(0, 2, 4), 714);
        Due.law(x, "f8(k=0)");
        due.is("11 not below 0", x.thing(0, 2, 4), 0);
    }

    private static void refusals() {
        DepositJudge x = joined(new int[] {5, 5}, new int[] {5});
        int[] wrong = {-1, 2, Integer.MAX_VALUE, Integer.MIN_VALUE};
        for (int i : wrong) {
            due.is("11 no such thing", x.thing(0, i, 0), -1);
            due.is("11 no such home", x.thing(i, 0, 0), -1);
            due.is("13 no such thing", x.led(0, i, 0), -1);
            due.is("13 no such home", x.led(i, 0, 0), -1);
            due.is("12 no such thing", x.isNew(0, i), -1);
            due.is("12 no such home", x.isNew(i, 0), -1);
        }
        due.is("12 no such thing", x.isNew(0, 1), -1);
        due.is("11 no such what", x.thing(0, 0, 5), -1);
        due.is("11 no such what", x.thing(0, 0, -1), -1);
        due.is("13 years below", x.led(0, 0, -1), -1);
        due.is("13 years above", x.led(0, 0, 31), -1);
    }

    /** Lists too long to try all rows: the least loss is found by sorting, and each thing tried in its order. */
    private static void longLists() {
        Random random = new Random(5);
        for (int turn = 0; turn < 300; turn++) {
            int[] before = states(random, turn % 3 == 0 ? 20 : 1 + random.nextInt(20));
            int[] after = states(random, turn % 5 == 0 ? 20 : 1 + random.nextInt(20));
            row("long", before, after, leastRow(before, after));
        }
    }

    private static int[] states(Random random, int many) {
        int least = 1 + random.nextInt(9);
        return random.ints(many, least, 10).toArray();
    }

    private static int[] leastRow(int[] before, int[] after) {
        List<Integer> left = new ArrayList<>();
        List<Integer> free = new ArrayList<>();
        for (int state : before) {
            left.add(state);
        }
        for (int j = 0; j < after.length; j++) {
            free.add(j);
        }
        int[] row = new int[before.length];
        for (int i = 0; i < before.length; i++) {
            int least = leastLoss(left, free, after);
            left.remove(0);
            row[i] = -2;
            for (int k = 0; k < free.size() && row[i] < 0; k++) {
                List<Integer> rest = new ArrayList<>(free);
                int j = rest.remove(k);
                if (Math.max(0, before[i] - after[j]) + leastLoss(left, rest, after) == least) {
                    row[i] = j;
                    free = rest;
                }
            }
        }
        return row;
    }

    private static int leastLoss(List<Integer> left, List<Integer> free, int[] after) {
        List<Integer> best = new ArrayList<>(left);
        List<Integer> given = new ArrayList<>();
        for (int j : free) {
            given.add(after[j]);
        }
        best.sort(Collections.reverseOrder());
        given.sort(Collections.reverseOrder());
        int loss = 0;
        for (int k = 0; k < best.size(); k++) {
            loss += Math.max(0, best.get(k) - (k < given.size() ? given.get(k) : 0));
        }
        return loss;
    }
}
