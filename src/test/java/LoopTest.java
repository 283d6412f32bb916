import java.util.Random;

/** Promise 19: loop. Ranges and refusals have tests of their own. */
public final class LoopTest {
    /** Rooms (power, divisor, low, high, late, open) whose loops come a little behind the limit. */
    private static final int[][] BEYOND = {
        {23, 55, 183, 464, 3, 0, 25, 87, -99, -36, 2, 0, 30, 97, 135, 510, 4, 0},
        {31, 54, 110, 474, 0, 0, 5, 84, -68, 361, 0, 1, 16, 24, 64, 493, 3, 0},
        {17, 43, 77, 273, 1, 1, 15, 67, 198, 292, 4, 0, 6, 78, 170, 359, 5, 0},
        {25, 29, 177, 453, 0, 0, 26, 39, -41, 367, 5, 0, 6, 23, 61, 171, 2, 1},
        {14, 76, -67, 196, 5, 0, 25, 42, 157, 491, 4, 0, 10, 54, 151, 384, 1, 1},
        {8, 29, 38, 284, 0, 0, 24, 57, 191, 528, 0, 0, 19, 67, -24, 275, 3, 1},
    };

    public static void main(String[] args) {
        stillRoom();
        coolingRoom();
        heaterAndLoss();
        lateTicksAreCounted();
        snapInTheLead();
        pullsCountInColdAndWarmRooms();
        warmthAtItsEnds();
        tiringStrip();
        longLoops();
        loopsOfAllLeads();
        upToTheLimit();
        isForgotten();
        goesByTicks();
        Due.end();
    }

    private static void loopIs(String name, SnapStacks x, int lead, int period, int snaps) {
        Due.is(name + ": lead", x.loop(0), lead);
        Due.is(name + ": period", x.loop(1), period);
        Due.is(name + ": snaps", x.loop(2), snaps);
    }

    /** The least lead, and the least period. */
    private static void stillRoom() {
        SnapStacks x = new SnapStacks();
        x.outside(200);
        loopIs("still", x, 0, 1, 0);
    }

    private static void coolingRoom() {
        SnapStacks x = new SnapStacks();
        x.outside(200);
        // 240, 238, 237, ... : one less a tick down to 219, of which a twentieth of 19 is 0.
        x.warm(1, 240);
        loopIs("cooling", x, 20, 1, 0);
        x.warm(1, 220);
        loopIs("cooling once", x, 1, 1, 0);
        x.warm(1, 219);
        loopIs("not cooling", x, 0, 1, 0);
        x.warm(1, 180);
        loopIs("warming once", x, 1, 1, 0);
    }

    private static void heaterAndLoss() {
        SnapStacks x = new SnapStacks();
        x.part(0, 1, 1, 0);
        x.outside(200);
        x.heat(0, 10, 1);
        x.bounds(0, 0, 50, 0);
        // 200, then 210 and a snap, then 200 and a snap back, and so on.
        loopIs("heater and loss", x, 0, 2, 1);
        x.bounds(0, 0, 50, 1);
        // 200 with no pull, 210 with one, 210 snapped, 200 with one, 200 not snapped.
        loopIs("late", x, 0, 4, 1);
        x.bounds(0, 0, 50, 2);
        loopIs("later", x, 0, 6, 1);
        x.bounds(0, 0, 50, 5);
        loopIs("latest", x, 0, 12, 1);
        x.warm(2, 223);
        loopIs("another room leads", x, 4, 12, 1);
        x.part(1, 1, 1, 0);
        x.heat(1, 10, 1);
        x.bounds(1, 0, 50, 0);
        loopIs("two strips, one of them six times", x, 4, 12, 7);
    }

    /** "What counts for a loop are ... and how many pulls are counted": nothing else differs here. */
    private static void lateTicksAreCounted() {
        for (int late = 0; late <= 5; late++) {
            SnapStacks x = new SnapStacks();
            x.outside(200);
            x.bounds(0, -1, 0, late);
            loopIs(late + " late ticks", x, late + 1, 1, 0);
            for (int tick = 1; tick <= late; tick++) {
                x.tick(1);
                loopIs(late + " late ticks, behind " + tick, x, late + 1 - tick, 1, 0);
            }
        }
    }

    /** Snaps are told "in a period": those on the way to it don't count, nor those so far. */
    private static void snapInTheLead() {
        SnapStacks x = new SnapStacks();
        x.outside(200);
        x.bounds(2, -1, 0, 0);
        loopIs("a snap in the lead", x, 1, 1, 0);
        x.tick(1);
        loopIs("a snap so far", x, 0, 1, 0);
        Due.is("the snap", x.count(1), 1);
    }

    /** Each room's warmth and pulls count by themselves, in the coldest and in the warmest rooms. */
    private static void pullsCountInColdAndWarmRooms() {
        for (int strip = 0; strip < 3; strip++) {
            for (int warmth : new int[] {-500, -499, 12, 523, 524, 1011, 1012, 1499, 1500}) {
                SnapStacks x = new SnapStacks();
                x.outside(warmth);
                for (int k = 0; k < 3; k++) {
                    x.warm(k, warmth);
                }
                x.bounds(strip, -1, 0, 5);
                loopIs("strip " + strip + " at " + warmth, x, 6, 1, 0);
            }
        }
    }

    private static void warmthAtItsEnds() {
        SnapStacks x = new SnapStacks();
        x.outside(1500);
        x.heat(0, 99, 99);
        x.warm(0, 1450);
        x.warm(1, 1500);
        x.warm(2, 1500);
        loopIs("held at the most", x, 1, 1, 0);
        SnapStacks y = new SnapStacks();
        y.outside(-500);
        for (int k = 0; k < 3; k++) {
            y.warm(k, -500);
        }
        y.warm(1, -480);
        loopIs("cooling to just above the least", y, 1, 1, 0);
        y.warm(1, -481);
        loopIs("just above the least", y, 0, 1, 0);
    }

    /** "If strips got no more tired". */
    private static void tiringStrip() {
        SnapStacks x = new SnapStacks();
        x.part(0, 4, 5, 0);
        x.part(0, 2, 3, 1);
        x.bounds(0, 1500, 3600, 1);
        x.heat(0, 10, 20);
        loopIs("never tired", x, 41, 49, 4);
        x.set(0, 1);
        x.set(1, 999);
        loopIs("as if none got tired", x, 41, 49, 4);
        Due.is("the bound stays", x.stripOf(0, 5), 3600);
        Due.is("setting 0 stays", x.count(5), 1);
    }

    private static void setRooms(SnapStacks x, SlowModel m, int[] row) {
        for (int k = 0; k < 3; k++) {
            int at = 6 * k;
            x.part(k, 1, 1, 0);
            m.part(k, 1, 1, 0);
            x.heat(k, row[at], row[at + 1]);
            m.heat(k, row[at], row[at + 1]);
            x.bounds(k, row[at + 2], row[at + 3], row[at + 4]);
            m.bounds(k, row[at + 2], row[at + 3], row[at + 4]);
            x.opening(k, row[at + 5]);
            m.opening(k, row[at + 5]);
        }
    }

    /** Against the slow model; so many that a single state that is not seen to come again would be found out. */
    private static void longLoops() {
        Random random = new Random(7);
        int told = 0;
        int beyond = 0;
        for (int i = 0; i < 700; i++) {
            SnapStacks x = new SnapStacks();
            SlowModel m = new SlowModel();
            setRooms(x, m, randomRooms(random));
            int[] loop = m.loopWithin(1500);
            if (loop == null) {
                loopIs("rooms " + i, x, Due.NONE, Due.NONE, Due.NONE);
                beyond++;
            } else {
                loopIs("rooms " + i, x, loop[0], loop[1], loop[2]);
                told++;
            }
        }
        Due.holds("some loops are told: " + told, told > 300);
        Due.holds("some are beyond the limit: " + beyond, beyond > 30);
    }

    private static int[] randomRooms(Random random) {
        int[] row = new int[18];
        for (int k = 0; k < 3; k++) {
            row[6 * k] = 1 + random.nextInt(30);
            row[6 * k + 1] = 10 + random.nextInt(89);
            row[6 * k + 2] = random.nextInt(300) - 100;
            row[6 * k + 3] = row[6 * k + 2] + 30 + random.nextInt(400);
            row[6 * k + 4] = random.nextInt(6);
            row[6 * k + 5] = random.nextInt(2);
        }
        return row;
    }

    /** Each tick of a long lead takes one from it, and leaves the period and its snaps. */
    private static void loopsOfAllLeads() {
        for (int row = 0; row < BEYOND.length; row++) {
            SlowModel m = new SlowModel();
            SnapStacks x = new SnapStacks();
            setRooms(x, m, BEYOND[row]);
            int[] loop = m.loopWithin(6000);
            int lead = loop[0];
            while (lead + loop[1] > 1500) {
                int ticks = Math.min(lead + loop[1] - 1500, 200);
                x.tick(ticks);
                lead -= ticks;
            }
            for (int calls = 50; lead > 0 && calls + 4 <= Due.MOST_CALLS; calls += 4) {
                int ticks = Math.min(lead, 13);
                x.tick(ticks);
                lead -= ticks;
                loopIs("row " + row + ", lead " + lead, x, lead, loop[1], loop[2]);
            }
        }
    }

    /** "They are told if both together are at most 1500": ticks bring each loop one tick short of that, and to it. */
    private static void upToTheLimit() {
        for (int row = 0; row < BEYOND.length; row++) {
            SnapStacks x = new SnapStacks();
            SlowModel m = new SlowModel();
            setRooms(x, m, BEYOND[row]);
            loopIs("row " + row + " is beyond the limit", x, Due.NONE, Due.NONE, Due.NONE);
            int[] loop = m.loopWithin(6000);
            Due.holds("row " + row + " is a loop for this test", loop != null && loop[0] + loop[1] > 1501);
            for (int ticks = loop[0] + loop[1] - 1501; ticks > 0; ticks -= 200) {
                x.tick(Math.min(ticks, 200));
            }
            loopIs("row " + row + ", 1501 together", x, Due.NONE, Due.NONE, Due.NONE);
            x.tick(1);
            loopIs("row " + row + ", 1500 together", x, 1500 - loop[1], loop[1], loop[2]);
            x.tick(1);
            loopIs("row " + row + ", 1499 together", x, 1499 - loop[1], loop[1], loop[2]);
        }
    }

    private static void isForgotten() {
        SnapStacks x = new SnapStacks();
        x.outside(200);
        loopIs("still", x, 0, 1, 0);
        x.warm(0, 240);
        loopIs("behind a change", x, 20, 1, 0);
        x.tick(3);
        loopIs("behind ticks", x, 17, 1, 0);
        x.undo();
        loopIs("behind an undo", x, 20, 1, 0);
        x.undo();
        loopIs("behind another undo", x, 0, 1, 0);
    }

    /** A loop that is told changes nothing, and comes as it was told. */
    private static void goesByTicks() {
        SnapStacks x = Scenes.busy();
        x.set(0, 0);
        int lead = x.loop(0);
        int period = x.loop(1);
        int snaps = x.loop(2);
        Due.holds("a loop for this test: " + lead + " " + period, lead > 0 && period > 1);
        for (int left = lead; left > 0; left -= 50) {
            x.tick(Math.min(left, 50));
        }
        loopIs("behind its lead", x, 0, period, snaps);
        int before = x.count(1);
        int[] state = counted(x);
        for (int left = period; left > 0; left -= 50) {
            x.tick(Math.min(left, 50));
        }
        Due.is("snaps in the period", x.count(1) - before, snaps);
        int[] again = counted(x);
        for (int i = 0; i < state.length; i++) {
            Due.is("what counts, " + i, again[i], state[i]);
        }
    }

    private static int[] counted(SnapStacks x) {
        int[] state = new int[9];
        for (int k = 0; k < 3; k++) {
            state[3 * k] = x.roomOf(k, 0);
            state[3 * k + 1] = x.stripOf(k, 7);
            state[3 * k + 2] = x.stripOf(k, 8);
        }
        return state;
    }
}
