import java.util.Arrays;
import java.util.List;
import java.util.Map;
import java.util.Random;

/** Promise 20: stack. Ranges and refusals have tests of their own. */
public final class StackTest {
    private static final int[][] SETS = {{0, 5, 10, 15, 20, 25}, {30, 1, 5, 10, 15, 20}, {7, 7, 7, 7, 7, 8},
        {0, 30, 0, 30, 13, 13}, {1, 2, 4, 8, 16, 30}, {29, 3, 17, 11, 5, 23}};
    private static final int MOST_BEND = 900;
    private static final int BENDS_OF_AN_OBJECT = 45;

    public static void main(String[] args) {
        fewestParts();
        leastLength();
        leastRow();
        noParts();
        equalMetals();
        greatestBends();
        metalsThatChange();
        manyMetals();
        againstAllRows();
        Due.end();
    }

    private static void stackIs(SnapStacks x, int bend, int... row) {
        Due.is("stack(" + bend + ", -1, 0)", x.stack(bend, -1, 0), row.length / 3);
        for (int i = 0; i < row.length; i++) {
            Due.is("stack(" + bend + ", " + i / 3 + ", " + i % 3 + ")", x.stack(bend, i / 3, i % 3), row[i]);
        }
        Due.is("behind the last part of " + bend, x.stack(bend, row.length / 3, 0), Due.NONE);
    }

    private static void fewestParts() {
        SnapStacks x = new SnapStacks();
        stackIs(x, 5, 1, 1, 0);
        stackIs(x, -5, 1, 0, 1);
        stackIs(x, 225, 9, 5, 0);
        // 35 = 7 * 5, the least length of which is 7; two parts would be shorter but more.
        stackIs(x, 35, 7, 1, 0);
        Due.is("not a multiple of 5", x.stack(7, -1, 0), Due.NONE);
        Due.is("just beside one", x.stack(6, -1, 0), Due.NONE);
        Due.is("just beside one below", x.stack(4, -1, 0), Due.NONE);
    }

    /** "Of several the one with the least length." */
    private static void leastLength() {
        SnapStacks x = new SnapStacks();
        // 50 by one part: 10 * 5 is too long, 5 * 10 is longer than 2 * 25.
        stackIs(x, 50, 2, 5, 0);
        // 65 = 13 * 5 by two parts: 5 * 2 + 1 * 3 or 5 + 4 * 2: three long at the least.
        stackIs(x, 65, 1, 3, 0, 2, 5, 0);
    }

    /** "Of these the one whose parts, told one behind the other ..., are the least row." */
    private static void leastRow() {
        // Metals 1 and 2 are alike, and so are 3 and 4: the least upper metal is taken, then the least lower one.
        SnapStacks x = Scenes.withMetals(9, 4, 4, 11, 11, 20);
        stackIs(x, 7, 1, 3, 1);
        stackIs(x, -7, 1, 1, 3);
        stackIs(x, 16, 1, 5, 1);
        stackIs(x, -16, 1, 1, 5);
        // 23 = 16 + 7: the part with the lesser upper metal is the first one.
        stackIs(x, 23, 1, 3, 1, 1, 5, 1);
        stackIs(x, -23, 1, 1, 3, 1, 1, 5);
        // 85 = 17 * 5, four long as 1 * 2 + 3 * 5 or 1 * 5 + 3 * 4 or with the longer part first.
        stackIs(new SnapStacks(), 85, 1, 2, 0, 3, 5, 0);
    }

    /** "(No parts bend by 0.)" */
    private static void noParts() {
        SnapStacks x = new SnapStacks();
        Due.is("how many", x.stack(0, -1, 0), 0);
        for (int what = 0; what <= 2; what++) {
            Due.is("the first part", x.stack(0, 0, what), Due.NONE);
        }
    }

    private static void equalMetals() {
        SnapStacks x = Scenes.withMetals(8, 8, 8, 8, 8, 8);
        Due.is("no parts", x.stack(0, -1, 0), 0);
        for (int bend : new int[] {-900, -5, -1, 1, 5, 900}) {
            Due.is("equal metals don't bend by " + bend, x.stack(bend, -1, 0), Due.NONE);
        }
        x.metal(0, 9);
        Due.is("27 by three parts", x.stack(27, -1, 0), 3);
        stackIs(x, 27, 9, 0, 1, 9, 0, 1, 9, 0, 1);
        Due.is("28 by none", x.stack(28, -1, 0), Due.NONE);
        stackIs(x, -27, 9, 1, 0, 9, 1, 0, 9, 1, 0);
        Due.is("-28 by none", x.stack(-28, -1, 0), Due.NONE);
    }

    /** "No stack of at most 3 parts bends so": what three parts bend by at the most, and the next number. */
    private static void greatestBends() {
        SnapStacks x = new SnapStacks();
        stackIs(x, 675, 9, 5, 0, 9, 5, 0, 9, 5, 0);
        stackIs(x, -675, 9, 0, 5, 9, 0, 5, 9, 0, 5);
        Due.is("676", x.stack(676, -1, 0), Due.NONE);
        Due.is("680", x.stack(680, -1, 0), Due.NONE);
        Due.is("-680", x.stack(-680, -1, 0), Due.NONE);
        x.metal(5, 30);
        stackIs(x, 270, 9, 5, 0);
        stackIs(x, 540, 9, 5, 0, 9, 5, 0);
        stackIs(x, 810, 9, 5, 0, 9, 5, 0, 9, 5, 0);
        stackIs(x, -810, 9, 0, 5, 9, 0, 5, 9, 0, 5);
        Due.is("811", x.stack(811, -1, 0), Due.NONE);
        Due.is("-811", x.stack(-811, -1, 0), Due.NONE);
        Due.is("900", x.stack(900, -1, 0), Due.NONE);
        Due.is("-900", x.stack(-900, -1, 0), Due.NONE);
    }

    private static void metalsThatChange() {
        SnapStacks x = new SnapStacks();
        stackIs(x, 25, 1, 5, 0);
        x.metal(5, 26);
        stackIs(x, 26, 1, 5, 0);
        x.undo();
        stackIs(x, 25, 1, 5, 0);
        for (int k = 0; k < 6; k++) {
            x.metal(k, k + 1);
        }
        Due.is("behind a change of all metals", x.stack(11, -1, 0), 2);
        stackIs(x, 45, 9, 5, 0);
        stackIs(x, 1, 1, 1, 0);
    }

    /** Metals that change over and over, some of them alike, against the slow model. */
    private static void manyMetals() {
        Random random = new Random(19);
        for (int object = 0; object < 60; object++) {
            SnapStacks x = new SnapStacks();
            for (int change = 0; change < 9; change++) {
                int kinds = 2 + random.nextInt(5);
                int[] numbers = new int[6];
                for (int k = 0; k < 6; k++) {
                    numbers[k] = k < kinds ? random.nextInt(31) : numbers[random.nextInt(kinds)];
                }
                setMetals(x, numbers);
                List<Map<Integer, int[]>> slow = SlowModel.bestStacks(numbers);
                for (int i = 0; i < 50; i++) {
                    int bend = i < 30 ? random.nextInt(121) - 60 : random.nextInt(2 * MOST_BEND + 1) - MOST_BEND;
                    int index = random.nextInt(4) - 1;
                    int what = index < 0 ? 0 : random.nextInt(3);
                    Due.is(Arrays.toString(numbers) + " stack(" + bend + ", " + index + ", " + what + ")",
                            x.stack(bend, index, what), told(slow, bend, index, what));
                }
            }
        }
    }

    private static int told(List<Map<Integer, int[]>> slow, int bend, int index, int what) {
        for (int parts = 0; parts <= 3; parts++) {
            int[] row = slow.get(parts).get(bend);
            if (row != null) {
                return index < 0 ? parts : index < parts ? row[3 * index + what] : Due.NONE;
            }
        }
        return Due.NONE;
    }

    /** All bends with several sets of metals; each object answers for another set first. */
    private static void againstAllRows() {
        for (int i = 0; i < SETS.length; i++) {
            SnapStacks x = null;
            int[] best = bestOfAllRows(SETS[i]);
            List<Map<Integer, int[]>> slow = SlowModel.bestStacks(SETS[i]);
            for (int bend = -MOST_BEND; bend <= MOST_BEND; bend++) {
                if (x == null || (bend + MOST_BEND) % BENDS_OF_AN_OBJECT == 0) {
                    x = Scenes.withMetals(SETS[(i + 5 + bend % 5) % SETS.length]);
                    x.stack(bend, 0, 0);
                    setMetals(x, SETS[i]);
                }
                checkStack(x, i, bend, best[bend + MOST_BEND]);
                slowAgrees(slow, bend, best[bend + MOST_BEND]);
            }
        }
    }

    private static void setMetals(SnapStacks x, int[] numbers) {
        for (int k = 0; k < 6; k++) {
            x.metal(k, numbers[k]);
        }
    }

    /** For each bend: the least of all rows of at most 3 parts, told as its parts, its length, and 9 bits a part. */
    private static int[] bestOfAllRows(int[] metals) {
        long[] best = new long[2 * MOST_BEND + 1];
        Arrays.fill(best, Long.MAX_VALUE);
        best[MOST_BEND] = 0;
        int[] length = new int[324];
        int[] rate = new int[324];
        for (int p = 0; p < 324; p++) {
            length[p] = 1 + p / 36;
            rate[p] = length[p] * (metals[p / 6 % 6] - metals[p % 6]);
        }
        for (int a = 0; a < 324; a++) {
            take(best, rate[a], 1, length[a], a);
            for (int b = 0; b < 324; b++) {
                take(best, rate[a] + rate[b], 2, length[a] + length[b], a * 324 + b);
                for (int c = 0; c < 324; c++) {
                    take(best, rate[a] + rate[b] + rate[c], 3, length[a] + length[b] + length[c],
                            (a * 324 + b) * 324 + c);
                }
            }
        }
        int[] rows = new int[best.length];
        for (int i = 0; i < rows.length; i++) {
            rows[i] = best[i] == Long.MAX_VALUE ? -1
                    : (int) (best[i] >> 40) * 100000000 + (int) (best[i] & 0xffffffffL);
        }
        return rows;
    }

    private static void take(long[] best, int bend, int parts, int length, int row) {
        long told = ((long) parts << 40) | ((long) length << 32) | row;
        if (told < best[bend + MOST_BEND]) {
            best[bend + MOST_BEND] = told;
        }
    }

    private static int partOfRow(int row, int parts, int index) {
        int rest = row % 100000000;
        for (int i = parts - 1; i > index; i--) {
            rest /= 324;
        }
        return rest % 324;
    }

    private static void checkStack(SnapStacks x, int set, int bend, int row) {
        String name = "set " + set + ": stack(" + bend + ", ";
        int parts = row < 0 ? 0 : row / 100000000;
        Due.is(name + "-1)", x.stack(bend, -1, 0), row < 0 ? Due.NONE : parts);
        for (int i = 0; i < 3; i++) {
            int part = partOfRow(Math.max(row, 0), parts, i);
            boolean is = i < parts;
            Due.is(name + i + ", 0)", x.stack(bend, i, 0), is ? 1 + part / 36 : Due.NONE);
            Due.is(name + i + ", 1)", x.stack(bend, i, 1), is ? part / 6 % 6 : Due.NONE);
            Due.is(name + i + ", 2)", x.stack(bend, i, 2), is ? part % 6 : Due.NONE);
        }
    }

    private static void slowAgrees(List<Map<Integer, int[]>> slow, int bend, int row) {
        int parts = 0;
        while (parts <= 3 && !slow.get(parts).containsKey(bend)) {
            parts++;
        }
        Due.is("the slow model's parts for " + bend, parts > 3 ? -1 : parts, row < 0 ? -1 : row / 100000000);
        for (int i = 0; parts <= 3 && i < parts; i++) {
            int[] told = slow.get(parts).get(bend);
            int part = (told[3 * i] - 1) * 36 + told[3 * i + 1] * 6 + told[3 * i + 2];
            Due.is("the slow model's part " + i + " for " + bend, part, partOfRow(row, parts, i));
        }
    }
}
