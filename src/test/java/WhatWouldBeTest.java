import java.util.List;
import java.util.Map;

/** Promises 17 to 21: bend, tripsAt, loop, stack, undo. */
public final class WhatWouldBeTest {
    private static final int LEAST = Integer.MIN_VALUE;
    private static final int MOST = Integer.MAX_VALUE;

    public static void main(String[] args) {
        bend();
        tripsAt();
        tripsAtAgainstAllWarmths();
        loopsByHand();
        longLoops();
        loopUpToItsLimit();
        loopIsForgotten();
        stackByHand();
        stackAgainstAllRows();
        stackArguments();
        undo();
        undoOfEachChange();
        Due.end();
    }

    private static void bend() {
        SnapStacks x = new SnapStacks();
        Due.is("no parts", x.bend(0, 1500), 0);
        x.part(0, 9, 5, 0);
        x.part(0, 3, 1, 2);
        Due.is("bend(0, 200)", x.bend(0, 200), 0);
        Due.is("bend(0, 201)", x.bend(0, 201), 210);
        Due.is("bend(0, -500)", x.bend(0, -500), -700 * 210);
        Due.is("bend(0, 1500)", x.bend(0, 1500), 1300 * 210);
        Due.is("bend(1, 1500)", x.bend(1, 1500), 0);
        String before = Due.stateOf(x);
        int[][] wrong = {{-1, 0}, {3, 0}, {0, -501}, {0, 1501}, {LEAST, 0}, {0, MOST}};
        for (int[] w : wrong) {
            Due.error(x, "bend(" + w[0] + ", " + w[1] + ")", x.bend(w[0], w[1]), Due.INVALID, before, 2);
        }
        SnapStacks most = new SnapStacks();
        most.metal(5, 30);
        for (int i = 0; i < 8; i++) {
            most.part(2, 9, 5, 0);
        }
        Due.is("the greatest bend", most.bend(2, 1500), 2160 * 1300);
    }

    private static void tripsAt() {
        SnapStacks x = new SnapStacks();
        Due.is("a strip without parts, high above 0", x.tripsAt(0, 0), Due.NONE);
        Due.is("a strip without parts, low above 0", x.tripsAt(0, 1), 1500);
        x.bounds(0, -1, 0, 0);
        Due.is("a strip without parts, high at 0", x.tripsAt(0, 0), -500);
        Due.is("a strip without parts, low below 0", x.tripsAt(0, 1), Due.NONE);
        x.tick(1);
        Due.is("whether it is snapped or not", x.tripsAt(0, 0), -500);
        x.part(0, 2, 0, 1);
        x.bounds(0, 5, 1000, 0);
        Due.is("backwards: the least one is the coldest", x.tripsAt(0, 0), -500);
        Due.is("backwards: the greatest one is the warmest", x.tripsAt(0, 1), 1500);
        String before = Due.stateOf(x);
        int[][] wrong = {{-1, 0}, {3, 0}, {0, -1}, {0, 2}, {LEAST, 0}, {0, MOST}};
        for (int[] w : wrong) {
            Due.error(x, "tripsAt(" + w[0] + ", " + w[1] + ")", x.tripsAt(w[0], w[1]), Due.INVALID, before, 4);
        }
    }

    private static void tripsAtAgainstAllWarmths() {
        int[][] strips = {{1, 1, 0}, {9, 5, 0}, {3, 2, 1}, {9, 0, 5}, {1, 0, 1}, {4, 3, 3}, {1, 2, 0}};
        for (int[] s : strips) {
            SnapStacks x = new SnapStacks();
            x.metal(1, 1);
            x.part(0, s[0], s[1], s[2]);
            int rate = x.stripOf(0, 2);
            int[] ats = {-90000, -33750, -3500, -701, -1, 0, 1, 99, 1000, 6500, 58500, 89999,
                rate * 1300 - 1, rate * 1300, rate * 1300 + 1, rate * -700 - 2, rate * -700 - 1, rate * -700};
            for (int at : ats) {
                if (at >= -90000 && at <= 89999) {
                    tripsAtAgainstAllWarmths(x, rate, at);
                }
            }
        }
    }

    private static void tripsAtAgainstAllWarmths(SnapStacks x, int rate, int at) {
        x.bounds(0, at, at + 1, 0);
        int up = Due.NONE;
        int back = Due.NONE;
        for (int t = -500; t <= 1500; t++) {
            up = up == Due.NONE && rate * (t - 200) >= at + 1 ? t : up;
            back = rate * (t - 200) <= at ? t : back;
        }
        Due.is("rate " + rate + ", high " + (at + 1), x.tripsAt(0, 0), up);
        Due.is("rate " + rate + ", low " + at, x.tripsAt(0, 1), back);
    }

    private static void loopsByHand() {
        SnapStacks x = new SnapStacks();
        x.outside(200);
        Due.is("a still state: lead", x.loop(0), 0);
        Due.is("a still state: period", x.loop(1), 1);
        Due.is("a still state: snaps", x.loop(2), 0);
        x.warm(1, 240);
        // 240, 238, 237, ... : one less a tick down to 219, of which a twentieth of 19 is 0.
        Due.is("cooling: lead", x.loop(0), 20);
        Due.is("cooling: period", x.loop(1), 1);
        SnapStacks y = new SnapStacks();
        y.part(0, 1, 1, 0);
        y.outside(200);
        y.heat(0, 10, 1);
        y.bounds(0, 0, 50, 0);
        // 200, then 210 and a snap, then 200 and a snap back, and so on.
        Due.is("heater and loss: lead", y.loop(0), 0);
        Due.is("heater and loss: period", y.loop(1), 2);
        Due.is("heater and loss: snaps", y.loop(2), 1);
        y.bounds(0, 0, 50, 1);
        // 200 with no pull, 210 with one, 210 snapped, 200 with one, 200 not snapped.
        Due.is("late: lead", y.loop(0), 0);
        Due.is("late: period", y.loop(1), 4);
        Due.is("late: snaps", y.loop(2), 1);
        y.bounds(0, 0, 50, 2);
        Due.is("later: period", y.loop(1), 6);
        Due.is("later: snaps", y.loop(2), 1);
        y.warm(2, 223);
        Due.is("another room leads", y.loop(0), 4);
        String before = Due.stateOf(y);
        for (int w : new int[] {-1, 3, LEAST, MOST}) {
            Due.error(y, "loop(" + w + ")", y.loop(w), Due.INVALID, before, 4);
        }
        Due.error(y, "loop(0)", y.loop(0), 4, before, 4);
        loopOfTiringStrip();
    }

    private static void loopOfTiringStrip() {
        SnapStacks x = new SnapStacks();
        x.part(0, 4, 5, 0);
        x.part(0, 2, 3, 1);
        x.bounds(0, 1500, 3600, 1);
        x.heat(0, 10, 20);
        int[] due = {41, 49, 4};
        for (int what = 0; what < 3; what++) {
            Due.is("never tired: loop(" + what + ")", x.loop(what), due[what]);
        }
        x.set(0, 1);
        x.set(1, 999);
        for (int what = 0; what < 3; what++) {
            Due.is("as if none got tired: loop(" + what + ")", x.loop(what), due[what]);
        }
        Due.is("the bound stays", x.stripOf(0, 5), 3600);
    }

    /** Rooms (power, divisor, low, high, late, open) whose loops come a little behind the limit. */
    private static final int[][] BEYOND = {
        {23, 55, 183, 464, 3, 0, 25, 87, -99, -36, 2, 0, 30, 97, 135, 510, 4, 0},
        {31, 54, 110, 474, 0, 0, 5, 84, -68, 361, 0, 1, 16, 24, 64, 493, 3, 0},
        {17, 43, 77, 273, 1, 1, 15, 67, 198, 292, 4, 0, 6, 78, 170, 359, 5, 0},
        {25, 29, 177, 453, 0, 0, 26, 39, -41, 367, 5, 0, 6, 23, 61, 171, 2, 1},
        {14, 76, -67, 196, 5, 0, 25, 42, 157, 491, 4, 0, 10, 54, 151, 384, 1, 1},
        {8, 29, 38, 284, 0, 0, 24, 57, 191, 528, 0, 0, 19, 67, -24, 275, 3, 1},
    };

    /** Ticks bring each of those loops one tick short of the limit, and to it. */
    private static void loopUpToItsLimit() {
        for (int i = 0; i < BEYOND.length; i++) {
            SnapStacks x = new SnapStacks();
            SlowModel m = new SlowModel();
            setRooms(x, m, BEYOND[i]);
            Due.is("row " + i + " is beyond the limit", x.loop(0), Due.NONE);
            int[] loop = m.loopWithin(6000);
            Due.holds("row " + i + " is a loop for this test", loop != null && loop[0] + loop[1] > 1501);
            checkLimit(x, i, loop);
        }
    }

    private static void longLoops() {
        int told = 0;
        int beyond = 0;
        for (int seed = 0; seed < 200; seed++) {
            SnapStacks x = new SnapStacks();
            SlowModel m = new SlowModel();
            int[] row = new int[18];
            for (int k = 0; k < 3; k++) {
                row[6 * k] = 3 + (seed * (k + 5)) % 11;
                row[6 * k + 1] = 40 + (seed * (2 * k + 3) + 7 * k) % 60;
                row[6 * k + 2] = 100 + 11 * k;
                row[6 * k + 3] = 300 + 11 * k + (seed * (k + 1)) % 97;
                row[6 * k + 4] = (seed + k) % 6;
                row[6 * k + 5] = seed % 3 == k ? 1 : 0;
            }
            setRooms(x, m, row);
            for (int what = 0; what <= 2; what++) {
                Due.is("seed " + seed + ": loop(" + what + ")", x.loop(what), m.loop(what));
            }
            told += x.loop(0) == Due.NONE ? 0 : 1;
            beyond += x.loop(0) == Due.NONE ? 1 : 0;
        }
        Due.holds("some loops are told: " + told, told > 10);
        Due.holds("some are beyond the limit: " + beyond, beyond > 10);
    }

    private static void setRooms(SnapStacks x, SlowModel m, int[] row) {
        for (int k = 0; k < 3; k++) {
            int at = 6 * k;
            x.part(k, 1, 1, 0);
            m.part(k, 1, 1, 0);
            x.heat(k, row[at], row[at + 1]);
            m.heat(k, row[at], row[at + 1]);
            x.bounds(k, row[at + 2], row[at + 3], row[at + 4]);
            m.bounds(k, row[at + 2], row[at + 3], row[at + 4]);
            x.opening(k, row[at + 5]);
            m.opening(k, row[at + 5]);
        }
    }

    private static void checkLimit(SnapStacks x, int row, int[] loop) {
        int ticks = loop[0] + loop[1] - 1501;
        for (; ticks > 0; ticks -= 200) {
            x.tick(Math.min(ticks, 200));
        }
        Due.is("row " + row + ", 1501 together: lead", x.loop(0), Due.NONE);
        Due.is("row " + row + ", 1501 together: period", x.loop(1), Due.NONE);
        Due.is("row " + row + ", 1501 together: snaps", x.loop(2), Due.NONE);
        x.tick(1);
        Due.is("row " + row + ", 1500 together: lead", x.loop(0), 1500 - loop[1]);
        Due.is("row " + row + ", 1500 together: period", x.loop(1), loop[1]);
        Due.is("row " + row + ", 1500 together: snaps", x.loop(2), loop[2]);
    }

    private static void loopIsForgotten() {
        SnapStacks x = new SnapStacks();
        x.outside(200);
        Due.is("still", x.loop(0), 0);
        x.warm(0, 240);
        Due.is("behind a change", x.loop(0), 20);
        x.tick(3);
        Due.is("behind ticks", x.loop(0), 17);
        x.undo();
        Due.is("behind an undo", x.loop(0), 20);
        x.undo();
        Due.is("behind another undo", x.loop(0), 0);
    }

    private static void stackIs(SnapStacks x, int bend, int... row) {
        Due.is("stack(" + bend + ", -1, 0)", x.stack(bend, -1, 0), row.length / 3);
        for (int i = 0; i < row.length; i++) {
            Due.is("stack(" + bend + ", " + i / 3 + ", " + i % 3 + ")", x.stack(bend, i / 3, i % 3), row[i]);
        }
        Due.is("behind the last part of " + bend, x.stack(bend, row.length / 3, 0), Due.NONE);
    }

    private static void stackByHand() {
        SnapStacks x = new SnapStacks();
        stackIs(x, 0);
        stackIs(x, 5, 1, 1, 0);
        stackIs(x, -5, 1, 0, 1);
        stackIs(x, 225, 9, 5, 0);
        stackIs(x, 675, 9, 5, 0, 9, 5, 0, 9, 5, 0);
        stackIs(x, -675, 9, 0, 5, 9, 0, 5, 9, 0, 5);
        // 35 = 7 * 5, the least length of which is 7; two parts would be shorter but more.
        stackIs(x, 35, 7, 1, 0);
        // 65 = 13 * 5 by two parts: 5 * 2 + 1 * 3 or 5 + 4 * 2: three long at the least.
        stackIs(x, 65, 1, 3, 0, 2, 5, 0);
        Due.is("not a multiple of 5", x.stack(7, -1, 0), Due.NONE);
        Due.is("beyond three parts", x.stack(680, -1, 0), Due.NONE);
        Due.is("far beyond three parts", x.stack(900, -1, 0), Due.NONE);
        Due.is("far below three parts", x.stack(-900, -1, 0), Due.NONE);
        for (int k = 0; k < 6; k++) {
            x.metal(k, 8);
        }
        stackIs(x, 0);
        Due.is("equal metals bend by nothing", x.stack(5, -1, 0), Due.NONE);
        x.undo();
        Due.is("the undo brings a metal back", x.stack(17, 0, 1), 5);
        x.metal(5, 30);
        x.metal(0, 0);
        stackIs(x, 810, 9, 5, 0, 9, 5, 0, 9, 5, 0);
        Due.is("811", x.stack(811, -1, 0), Due.NONE);
        for (int k = 0; k < 6; k++) {
            x.metal(k, k + 1);
        }
        Due.is("behind a change of all metals", x.stack(11, -1, 0), 2);
        stackIs(x, 45, 9, 5, 0);
    }

    private static void stackAgainstAllRows() {
        int[][] sets = {{0, 5, 10, 15, 20, 25}, {30, 1, 5, 10, 15, 20}, {7, 7, 7, 7, 7, 8}, {0, 30, 0, 30, 13, 13},
            {1, 2, 4, 8, 16, 30}, {29, 3, 17, 11, 5, 23}};
        for (int i = 0; i < sets.length; i++) {
            SnapStacks x = new SnapStacks();
            for (int k = 0; k < 6; k++) {
                x.metal(k, sets[i][k]);
            }
            int[] best = bestOfAllRows(sets[i]);
            List<Map<Integer, int[]>> slow = SlowModel.bestStacks(sets[i]);
            for (int bend = -900; bend <= 900; bend++) {
                checkStack(x, i, bend, best[bend + 900]);
                slowAgrees(slow, bend, best[bend + 900]);
            }
        }
    }

    /** For each bend: the least of all rows of at most 3 parts, told as its parts, its length, and 9 bits a part. */
    private static int[] bestOfAllRows(int[] metals) {
        long[] best = new long[1801];
        java.util.Arrays.fill(best, Long.MAX_VALUE);
        best[900] = 0;
        int[] length = new int[324];
        int[] rate = new int[324];
        for (int p = 0; p < 324; p++) {
            length[p] = 1 + p / 36;
            rate[p] = length[p] * (metals[p / 6 % 6] - metals[p % 6]);
        }
        for (int a = 0; a < 324; a++) {
            take(best, rate[a], 1, length[a], a);
            for (int b = 0; b < 324; b++) {
                take(best, rate[a] + rate[b], 2, length[a] + length[b], a * 324 + b);
                for (int c = 0; c < 324; c++) {
                    take(best, rate[a] + rate[b] + rate[c], 3, length[a] + length[b] + length[c],
                            (a * 324 + b) * 324 + c);
                }
            }
        }
        int[] rows = new int[1801];
        for (int i = 0; i < 1801; i++) {
            rows[i] = best[i] == Long.MAX_VALUE ? -1
                    : (int) (best[i] >> 40) * 100000000 + (int) (best[i] & 0xffffffffL);
        }
        return rows;
    }

    private static void take(long[] best, int bend, int parts, int length, int row) {
        long told = ((long) parts << 40) | ((long) length << 32) | row;
        if (told < best[bend + 900]) {
            best[bend + 900] = told;
        }
    }

    private static int partOfRow(int row, int parts, int index) {
        int rest = row % 100000000;
        for (int i = parts - 1; i > index; i--) {
            rest /= 324;
        }
        return rest % 324;
    }

    private static void checkStack(SnapStacks x, int set, int bend, int row) {
        String name = "set " + set + ": stack(" + bend + ", ";
        int parts = row < 0 ? 0 : row / 100000000;
        Due.is(name + "-1)", x.stack(bend, -1, 0), row < 0 ? Due.NONE : parts);
        for (int i = 0; i < 3; i++) {
            int part = partOfRow(Math.max(row, 0), parts, i);
            boolean is = i < parts;
            Due.is(name + i + ", 0)", x.stack(bend, i, 0), is ? 1 + part / 36 : Due.NONE);
            Due.is(name + i + ", 1)", x.stack(bend, i, 1), is ? part / 6 % 6 : Due.NONE);
            Due.is(name + i + ", 2)", x.stack(bend, i, 2), is ? part % 6 : Due.NONE);
        }
    }

    private static void slowAgrees(List<Map<Integer, int[]>> slow, int bend, int row) {
        int parts = 0;
        while (parts <= 3 && !slow.get(parts).containsKey(bend)) {
            parts++;
        }
        Due.is("the slow model's parts for " + bend, parts > 3 ? -1 : parts, row < 0 ? -1 : row / 100000000);
        for (int i = 0; parts <= 3 && i < parts; i++) {
            int[] told = slow.get(parts).get(bend);
            int part = (told[3 * i] - 1) * 36 + told[3 * i + 1] * 6 + told[3 * i + 2];
            Due.is("the slow model's part " + i + " for " + bend, part, partOfRow(row, parts, i));
        }
    }

    private static void stackArguments() {
        SnapStacks x = new SnapStacks();
        String before = Due.stateOf(x);
        int[][] wrong = {{-901, -1, 0}, {901, -1, 0}, {0, -2, 0}, {0, -1, 1}, {0, -1, 2}, {5, 0, -1}, {5, 0, 3},
            {LEAST, 0, 0}, {MOST, 0, 0}, {5, LEAST, 0}, {5, 0, MOST}, {7, -1, 1}, {7, 0, 3}, {5, -1, -1}};
        for (int[] w : wrong) {
            Due.error(x, "stack(" + w[0] + ", " + w[1] + ", " + w[2] + ")",
                    x.stack(w[0], w[1], w[2]), Due.INVALID, before, 0);
        }
        int[][] none = {{0, 0, 0}, {0, 0, 2}, {5, 1, 0}, {5, MOST, 0}, {7, 0, 0}, {675, 3, 0}};
        for (int[] w : none) {
            Due.error(x, "stack(" + w[0] + ", " + w[1] + ", " + w[2] + ")",
                    x.stack(w[0], w[1], w[2]), Due.NONE, before, 0);
        }
        Due.error(x, "stack(5, 0, 1)", x.stack(5, 0, 1), 1, before, 0);
    }

    private static void undo() {
        SnapStacks x = new SnapStacks();
        for (int i = 1; i <= 6; i++) {
            x.outside(i);
            Due.is("states behind change " + i, x.count(3), Math.min(i, 4));
        }
        Due.is("undo", x.undo(), 3);
        Due.is("the outside", x.count(2), 5);
        x.outside(70);
        Due.is("a state again", x.count(3), 4);
        for (int left = 3; left >= 0; left--) {
            Due.is("undo", x.undo(), left);
            Due.is("the outside", x.count(2), left + 2);
        }
        String before = Due.stateOf(x);
        Due.error(x, "undo", x.undo(), Due.IMPOSSIBLE, before, 0);
        Due.is("the oldest was dropped", x.count(2), 2);
        x.type('1');
        x.outside(9);
        x.type('2');
        x.undo();
        Due.is("the text stays", x.count(4), 2);
        Due.is("type is no change", x.undo(), Due.IMPOSSIBLE);
        x.clearText();
        Due.is("clearText is no change", x.undo(), Due.IMPOSSIBLE);
        x.warm(0, x.roomOf(0, 0));
        Due.is("a change to the same is one", x.undo(), 0);
    }

    private static void undoOfEachChange() {
        for (int change = 0; change < 12; change++) {
            SnapStacks x = new SnapStacks();
            x.part(0, 4, 5, 0);
            x.part(0, 2, 3, 1);
            x.bounds(0, 1500, 3600, 1);
            x.heat(0, 30, 20);
            x.set(0, 1);
            x.opening(0, 1);
            x.tick(40);
            Due.typeAll(x, "9ff,8fa,1ab");
            String before = Due.stateOf(x);
            int loop = x.loop(1);
            int stack = x.stack(75, 0, 0);
            oneChange(x, change);
            Due.holds("change " + change + " changes", !Due.stateOf(x).equals(before));
            x.loop(1);
            x.stack(75, 0, 0);
            Due.is("undo of change " + change, x.undo(), 3);
            Due.holds("undo of change " + change + " restores", Due.stateOf(x).equals(before));
            Due.is("the loop behind it", x.loop(1), loop);
            Due.is("the stack behind it", x.stack(75, 0, 0), stack);
        }
    }

    private static int oneChange(SnapStacks x, int change) {
        switch (change) {
            case 0: return x.metal(3, 29);
            case 1: return x.part(0, 9, 0, 5);
            case 2: return x.cut(0, 2);
            case 3: return x.bounds(0, -5, 5, 5);
            case 4: return x.contact(0, 1);
            case 5: return x.heat(0, 98, 97);
            case 6: return x.outside(1234);
            case 7: return x.warm(2, 321);
            case 8: return x.opening(2, 1);
            case 9: return x.set(1, 998);
            case 10: return x.tick(23);
            default: return x.read(0);
        }
    }
}
