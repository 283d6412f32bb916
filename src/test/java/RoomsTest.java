/** Promises 7 to 12: heat, outside, warm, opening, set, tick. */
public final class RoomsTest {
    private static final int LEAST = Integer.MIN_VALUE;
    private static final int MOST = Integer.MAX_VALUE;

    public static void main(String[] args) {
        heat();
        outside();
        warm();
        opening();
        set();
        tickArguments();
        tickWarmth();
        tickHolds();
        tickJoins();
        tickSnaps();
        tickLate();
        tickTired();
        tickContacts();
        Due.end();
    }

    private static void heat() {
        SnapStacks x = new SnapStacks();
        Due.is("heat(0, 99, 1)", x.heat(0, 99, 1), 20);
        Due.is("heat(0, 0, 99)", x.heat(0, 0, 99), 9901);
        Due.is("heat(0, 7, 30)", x.heat(0, 7, 30), 99);
        Due.is("the power", x.roomOf(0, 1), 7);
        Due.is("the divisor", x.roomOf(0, 2), 30);
        Due.is("another room's power", x.roomOf(1, 1), 0);
        String before = Due.stateOf(x);
        int[][] wrong = {{-1, 0, 1}, {3, 0, 1}, {0, -1, 1}, {0, 100, 1}, {0, 0, 0}, {0, 0, 100}, {0, 0, -1},
            {LEAST, 0, 1}, {0, MOST, 1}, {0, 0, LEAST}};
        for (int[] w : wrong) {
            Due.error(x, "heat(" + w[0] + ", " + w[1] + ", " + w[2] + ")",
                    x.heat(w[0], w[1], w[2]), Due.INVALID, before, 3);
        }
    }

    private static void outside() {
        SnapStacks x = new SnapStacks();
        Due.is("outside(-500)", x.outside(-500), 100);
        Due.is("outside(1500)", x.outside(1500), -500);
        Due.is("outside(3)", x.outside(3), 1500);
        Due.is("count(2)", x.count(2), 3);
        String before = Due.stateOf(x);
        for (int w : new int[] {-501, 1501, LEAST, MOST}) {
            Due.error(x, "outside(" + w + ")", x.outside(w), Due.INVALID, before, 3);
        }
    }

    private static void warm() {
        SnapStacks x = new SnapStacks();
        x.part(2, 9, 5, 0);
        Due.is("warm(2, 1500)", x.warm(2, 1500), 200);
        Due.is("no snap by it", x.stripOf(2, 7), 0);
        Due.is("no pull by it", x.stripOf(2, 8), 0);
        Due.is("the bend by it", x.stripOf(2, 3), 225 * 1300);
        Due.is("no greatest warmth by it", x.roomOf(2, 5), Due.NONE);
        Due.is("warm(2, -500)", x.warm(2, -500), 1500);
        Due.is("another room", x.roomOf(1, 0), 200);
        String before = Due.stateOf(x);
        int[][] wrong = {{-1, 0}, {3, 0}, {0, -501}, {0, 1501}, {LEAST, 0}, {0, MOST}};
        for (int[] w : wrong) {
            Due.error(x, "warm(" + w[0] + ", " + w[1] + ")", x.warm(w[0], w[1]), Due.INVALID, before, 3);
        }
    }

    private static void opening() {
        SnapStacks x = new SnapStacks();
        Due.is("opening(2, 1)", x.opening(2, 1), 1);
        Due.is("opening(2, 1) again", x.opening(2, 1), 1);
        Due.is("opening(0, 1)", x.opening(0, 1), 2);
        Due.is("opening(1, 1)", x.opening(1, 1), 3);
        Due.is("opening(2, 0)", x.opening(2, 0), 2);
        Due.is("room 2", x.roomOf(2, 3), 0);
        Due.is("room 1", x.roomOf(1, 3), 1);
        String before = Due.stateOf(x);
        int[][] wrong = {{-1, 0}, {3, 0}, {0, -1}, {0, 2}, {LEAST, 0}, {0, MOST}};
        for (int[] w : wrong) {
            Due.error(x, "opening(" + w[0] + ", " + w[1] + ")", x.opening(w[0], w[1]), Due.INVALID, before, 4);
        }
    }

    private static void set() {
        SnapStacks x = new SnapStacks();
        Due.is("set(0, 99)", x.set(0, 99), 0);
        Due.is("set(0, 0)", x.set(0, 0), 99);
        Due.is("set(1, 999)", x.set(1, 999), 50);
        Due.is("set(1, 1)", x.set(1, 1), 999);
        Due.is("count(5)", x.count(5), 0);
        Due.is("count(6)", x.count(6), 1);
        String before = Due.stateOf(x);
        int[][] wrong = {{-1, 1}, {2, 1}, {0, -1}, {0, 100}, {1, 0}, {1, 1000}, {LEAST, 1}, {0, MOST}, {1, LEAST}};
        for (int[] w : wrong) {
            Due.error(x, "set(" + w[0] + ", " + w[1] + ")", x.set(w[0], w[1]), Due.INVALID, before, 4);
        }
    }

    private static void tickArguments() {
        SnapStacks x = new SnapStacks();
        String before = Due.stateOf(x);
        for (int w : new int[] {0, -1, 201, LEAST, MOST}) {
            Due.error(x, "tick(" + w + ")", x.tick(w), Due.INVALID, before, 0);
        }
        Due.is("tick(200)", x.tick(200), 0);
        Due.is("count(0)", x.count(0), 200);
        Due.is("one change in the history", x.count(3), 1);
    }

    private static void tickWarmth() {
        SnapStacks x = new SnapStacks();
        x.heat(0, 30, 20);
        x.heat(1, 0, 7);
        x.warm(2, -119);
        x.tick(1);
        Due.is("heated: 200 + 30 - 5", x.roomOf(0, 0), 225);
        Due.is("lost: 200 - 100 / 7", x.roomOf(1, 0), 186);
        Due.is("gained, towards 0: -119 + 219 / 20", x.roomOf(2, 0), -109);
        x.tick(1);
        Due.is("225 + 30 - 6", x.roomOf(0, 0), 249);
        Due.is("the greatest", x.roomOf(0, 5), 249);
        Due.is("the least", x.roomOf(0, 6), 225);
        Due.is("greatest while cooling", x.roomOf(1, 5), 186);
        Due.is("least while warming", x.roomOf(2, 6), -109);
        Due.is("greatest below 0", x.roomOf(2, 5), -99);
    }

    private static void tickHolds() {
        SnapStacks x = new SnapStacks();
        x.outside(1500);
        x.warm(0, 1490);
        x.heat(0, 99, 99);
        x.tick(1);
        Due.is("held at the most", x.roomOf(0, 0), 1500);
        SnapStacks y = new SnapStacks();
        y.outside(-500);
        y.warm(0, 1500);
        y.warm(1, -400);
        y.warm(2, -500);
        y.opening(0, 1);
        y.heat(1, 0, 1);
        y.opening(1, 1);
        y.heat(0, 0, 1);
        y.tick(1);
        Due.is("held at the least", y.roomOf(0, 0), -500);
        Due.is("-400 - 100 + 190 - 10", y.roomOf(1, 0), -320);
    }

    private static void tickJoins() {
        for (int opened = 0; opened < 3; opened++) {
            SnapStacks x = new SnapStacks();
            x.warm(1, 209);
            x.warm(2, 300);
            x.outside(209);
            x.heat(0, 0, 99);
            x.heat(1, 0, 99);
            x.heat(2, 0, 99);
            x.opening(opened, 1);
            x.tick(1);
            int first = opened == 2 ? 200 + 10 : 200;
            int second = opened == 1 ? 209 + 9 : 209;
            int third = opened == 2 ? 300 - 10 : opened == 1 ? 300 - 9 : 300;
            Due.is("opening " + opened + ": room 0", x.roomOf(0, 0), first);
            Due.is("opening " + opened + ": room 1", x.roomOf(1, 0), second);
            Due.is("opening " + opened + ": room 2", x.roomOf(2, 0), third);
        }
        SnapStacks all = new SnapStacks();
        all.outside(200);
        all.warm(1, 299);
        all.warm(2, 95);
        for (int k = 0; k < 3; k++) {
            all.heat(k, 0, 99);
            all.opening(k, 1);
        }
        all.tick(1);
        Due.is("all open: 200 + 9 - 10", all.roomOf(0, 0), 199);
        Due.is("all open: 299 - 1 - 9 - 20", all.roomOf(1, 0), 299 - 1 - 9 - 20);
        Due.is("all open: 95 + 1 + 10 + 20", all.roomOf(2, 0), 95 + 1 + 10 + 20);
    }

    /** A strip of rate 10 in a room that keeps its warmth, as the outside has it and the power is 0. */
    private static SnapStacks still(int low, int high, int late) {
        SnapStacks x = new SnapStacks();
        x.part(0, 2, 1, 0);
        x.bounds(0, low, high, late);
        x.outside(200);
        return x;
    }

    private static int tickAt(SnapStacks x, int warmth) {
        x.outside(warmth);
        x.warm(0, warmth);
        return x.tick(1);
    }

    private static void tickSnaps() {
        SnapStacks x = still(100, 300, 0);
        Due.is("just below the high bound", tickAt(x, 229), 0);
        Due.is("at the high bound", tickAt(x, 230), 1);
        Due.is("snapped", x.stripOf(0, 7), 1);
        Due.is("above the high bound while snapped", tickAt(x, 300), 0);
        Due.is("just above the low bound", tickAt(x, 211), 0);
        Due.is("at the low bound", tickAt(x, 210), 1);
        Due.is("snapped back", x.stripOf(0, 7), 0);
        Due.is("snaps, not those back", x.stripOf(0, 9), 1);
        Due.is("below the low bound while not snapped", tickAt(x, 100), 0);
        Due.is("the sum of the snaps", x.count(1), 1);
        SnapStacks all = new SnapStacks();
        for (int k = 0; k < 3; k++) {
            all.bounds(k, -1, 0, 0);
        }
        Due.is("three strips snap", all.tick(1), 3);
        all.bounds(1, 0, 1, 0);
        Due.is("one snaps back", all.tick(2), 1);
        Due.is("all snaps", all.count(1), 3);
    }

    private static void tickLate() {
        SnapStacks x = still(100, 300, 2);
        Due.is("the first pull", tickAt(x, 240), 0);
        Due.is("one is counted", x.stripOf(0, 8), 1);
        Due.is("a tick without a pull", tickAt(x, 220), 0);
        Due.is("none is counted", x.stripOf(0, 8), 0);
        tickAt(x, 240);
        tickAt(x, 240);
        Due.is("two are counted", x.stripOf(0, 8), 2);
        Due.is("not yet snapped", x.stripOf(0, 7), 0);
        Due.is("the third pull", tickAt(x, 240), 1);
        Due.is("counted anew", x.stripOf(0, 8), 0);
        tickAt(x, 200);
        tickAt(x, 200);
        Due.is("still snapped", x.stripOf(0, 7), 1);
        Due.is("two back", x.stripOf(0, 8), 2);
        Due.is("the third pull back", tickAt(x, 200), 1);
        Due.is("not snapped", x.stripOf(0, 7), 0);
    }

    private static void tickTired() {
        SnapStacks x = still(100, 300, 0);
        x.set(0, 2);
        x.set(1, 60);
        int[] high = {300, 240, 240, 180, 180, 120, 120, 120};
        for (int i = 0; i < high.length; i++) {
            Due.is("snap " + (i + 1), tickAt(x, 300), 1);
            Due.is("the high bound behind snap " + (i + 1), x.stripOf(0, 5), high[i]);
            tickAt(x, 100);
            Due.is("and behind the snap back", x.stripOf(0, 5), high[i]);
        }
        Due.is("the low bound stays", x.stripOf(0, 4), 100);
        x.set(1, 20);
        tickAt(x, 300);
        tickAt(x, 100);
        tickAt(x, 300);
        Due.is("it would come to the low bound", x.stripOf(0, 5), 120);
        x.set(1, 19);
        x.set(0, 1);
        tickAt(x, 100);
        tickAt(x, 300);
        Due.is("it stays above the low bound", x.stripOf(0, 5), 101);
        SnapStacks other = still(100, 300, 0);
        other.part(1, 2, 1, 0);
        other.bounds(1, 100, 300, 0);
        other.set(0, 2);
        other.warm(1, 300);
        tickAt(other, 300);
        Due.is("snaps of two strips", other.count(1), 2);
        Due.is("a strip has its own snaps: 0", other.stripOf(0, 5), 300);
        Due.is("a strip has its own snaps: 1", other.stripOf(1, 5), 300);
    }

    private static void tickContacts() {
        SnapStacks x = new SnapStacks();
        x.outside(200);
        x.heat(0, 10, 99);
        x.contact(0, 1);
        x.bounds(0, -1, 0, 0);
        x.tick(1);
        Due.is("open at the beginning: no heat", x.roomOf(0, 0), 200);
        Due.is("ticks closed", x.roomOf(0, 4), 0);
        x.tick(1);
        Due.is("closed at the beginning: heat", x.roomOf(0, 0), 210);
        Due.is("ticks closed", x.roomOf(0, 4), 1);
        Due.is("ticks closed without power", x.roomOf(1, 4), 2);
        x.contact(0, 0);
        x.tick(3);
        Due.is("kind 0 while snapped", x.roomOf(0, 4), 1);
    }
}
