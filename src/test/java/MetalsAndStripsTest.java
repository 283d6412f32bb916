/** Promises 1 to 6: a new object, metal, part, cut, bounds, contact. */
public final class MetalsAndStripsTest {
    private static final int LEAST = Integer.MIN_VALUE;
    private static final int MOST = Integer.MAX_VALUE;

    public static void main(String[] args) {
        newObject();
        metal();
        part();
        cut();
        bounds();
        contact();
        objectsAreApart();
        Due.end();
    }

    private static void newObject() {
        SnapStacks x = new SnapStacks();
        int[] strip = {0, 0, 0, 0, 1000, 3000, 0, 0, 0, 0, 0, 1};
        int[] room = {200, 0, 20, 0, 0, Due.NONE, Due.NONE};
        for (int k = 0; k < 3; k++) {
            for (int what = 0; what < strip.length; what++) {
                Due.is("new: stripOf(" + k + ", " + what + ")", x.stripOf(k, what), strip[what]);
            }
            for (int what = 0; what < room.length; what++) {
                Due.is("new: roomOf(" + k + ", " + what + ")", x.roomOf(k, what), room[what]);
            }
            Due.is("new: partOf", x.partOf(k, 0, 0), Due.NONE);
        }
        int[] counts = {0, 0, 100, 0, 0, 0, 50};
        for (int what = 0; what < counts.length; what++) {
            Due.is("new: count(" + what + ")", x.count(what), counts[what]);
        }
        for (int k = 0; k < 6; k++) {
            Due.is("new: count(1" + k + ")", x.count(10 + k), 5 * k);
        }
        Due.is("new: undo", x.undo(), Due.IMPOSSIBLE);
        Due.is("new: fault", x.fault(0), Due.NONE);
    }

    private static void metal() {
        SnapStacks x = new SnapStacks();
        Due.is("metal(5, 30)", x.metal(5, 30), 25);
        Due.is("metal(5, 0)", x.metal(5, 0), 30);
        Due.is("metal(0, 7)", x.metal(0, 7), 0);
        Due.is("count(10)", x.count(10), 7);
        Due.is("count(11)", x.count(11), 5);
        Due.is("count(15)", x.count(15), 0);
        x.part(1, 3, 0, 2);
        Due.is("a part by the first numbers", x.stripOf(1, 2), -9);
        x.metal(2, 1);
        Due.is("the same part by new ones", x.stripOf(1, 2), 18);
        Due.is("the part itself", x.partOf(1, 0, 3), 18);
        String before = Due.stateOf(x);
        int[][] wrong = {{-1, 0}, {6, 0}, {0, -1}, {0, 31}, {LEAST, 5}, {MOST, 5}, {5, LEAST}, {5, MOST}};
        for (int[] w : wrong) {
            Due.error(x, "metal(" + w[0] + ", " + w[1] + ")", x.metal(w[0], w[1]), Due.INVALID, before, 4);
        }
    }

    private static void part() {
        SnapStacks x = new SnapStacks();
        Due.is("the first part", x.part(2, 9, 5, 0), 1);
        Due.is("the second part", x.part(2, 1, 0, 5), 2);
        Due.is("a part of another strip", x.part(0, 4, 3, 3), 1);
        Due.is("its rate", x.stripOf(2, 2), 9 * 25 - 25);
        Due.is("the last part's length", x.partOf(2, 1, 0), 1);
        Due.is("the length", x.stripOf(2, 1), 10);
        int[][] wrong = {{-1, 1, 0, 0}, {3, 1, 0, 0}, {0, 0, 0, 0}, {0, 10, 0, 0}, {0, 1, -1, 0}, {0, 1, 6, 0},
            {0, 1, 0, -1}, {0, 1, 0, 6}, {LEAST, 1, 0, 0}, {0, MOST, 0, 0}, {0, 1, MOST, 0}, {0, 1, 0, LEAST}};
        String before = Due.stateOf(x);
        for (int[] w : wrong) {
            Due.error(x, "part(" + w[0] + ", " + w[1] + ", " + w[2] + ", " + w[3] + ")",
                    x.part(w[0], w[1], w[2], w[3]), Due.INVALID, before, 3);
        }
        for (int i = 3; i <= 8; i++) {
            Due.is("part " + i, x.part(2, i, 1, 0), i);
        }
        before = Due.stateOf(x);
        Due.error(x, "a ninth part", x.part(2, 1, 0, 0), Due.LIMIT, before, 4);
        Due.error(x, "a ninth part out of range", x.part(2, 10, 0, 0), Due.INVALID, before, 4);
        Due.is("another strip has place", x.part(0, 1, 0, 0), 2);
    }

    private static void cut() {
        SnapStacks x = new SnapStacks();
        for (int i = 1; i <= 8; i++) {
            x.part(1, i, 1, 0);
        }
        Due.is("cut(1, 3)", x.cut(1, 3), 5);
        Due.is("the last part left", x.partOf(1, 4, 0), 5);
        Due.is("the part behind it", x.partOf(1, 5, 0), Due.NONE);
        Due.is("the length", x.stripOf(1, 1), 15);
        Due.is("the rate", x.stripOf(1, 2), 75);
        String before = Due.stateOf(x);
        Due.error(x, "cut(1, 6)", x.cut(1, 6), Due.IMPOSSIBLE, before, 4);
        Due.error(x, "cut(0, 1)", x.cut(0, 1), Due.IMPOSSIBLE, before, 4);
        int[][] wrong = {{-1, 1}, {3, 1}, {1, 0}, {1, 9}, {1, -1}, {LEAST, 1}, {1, MOST}, {0, 9}};
        for (int[] w : wrong) {
            Due.error(x, "cut(" + w[0] + ", " + w[1] + ")", x.cut(w[0], w[1]), Due.INVALID, before, 4);
        }
        Due.is("a part behind the cut", x.part(1, 9, 2, 0), 6);
        Due.is("its length", x.partOf(1, 5, 0), 9);
        Due.is("cut(1, 6)", x.cut(1, 6), 0);
        Due.is("no rate is left", x.stripOf(1, 2), 0);
        SnapStacks y = new SnapStacks();
        for (int i = 1; i <= 8; i++) {
            y.part(1, i, 1, 0);
        }
        Due.is("cut(1, 8)", y.cut(1, 8), 0);
    }

    private static void bounds() {
        SnapStacks x = new SnapStacks();
        x.part(0, 2, 3, 1);
        x.warm(0, 190);
        Due.is("bounds answers the bend", x.bounds(0, -90000, 90000, 5), -200);
        Due.is("low", x.stripOf(0, 4), -90000);
        Due.is("high", x.stripOf(0, 5), 90000);
        Due.is("late", x.stripOf(0, 6), 5);
        Due.is("another strip's low", x.stripOf(1, 4), 1000);
        Due.is("the greatest low", x.bounds(0, 89999, 90000, 0), -200);
        Due.is("the least high", x.bounds(0, -90000, -89999, 0), -200);
        String before = Due.stateOf(x);
        int[][] wrong = {{-1, 0, 1, 0}, {3, 0, 1, 0}, {0, -90001, 0, 0}, {0, 90000, 90001, 0}, {0, 89999, 90001, 0},
            {0, 0, 0, 0}, {0, 1, 0, 0}, {0, 0, 90001, 0}, {0, 0, 1, -1}, {0, 0, 1, 6}, {0, MOST, LEAST, 0},
            {0, LEAST, 0, 0}, {0, MOST, MOST, 0}, {MOST, 0, 1, 0}, {0, 0, 1, MOST}};
        for (int[] w : wrong) {
            Due.error(x, "bounds(" + w[0] + ", " + w[1] + ", " + w[2] + ", " + w[3] + ")",
                    x.bounds(w[0], w[1], w[2], w[3]), Due.INVALID, before, 4);
        }
        boundsLeaveSnapAndPulls();
    }

    private static void boundsLeaveSnapAndPulls() {
        SnapStacks x = new SnapStacks();
        x.bounds(0, -10, 0, 3);
        x.tick(3);
        Due.is("three pulls", x.stripOf(0, 8), 3);
        x.bounds(0, -10, 0, 1);
        Due.is("pulls stay", x.stripOf(0, 8), 3);
        Due.is("more pulls than late ticks do", x.tick(1), 1);
        Due.is("pulls are counted anew", x.stripOf(0, 8), 0);
        x.bounds(0, 500, 600, 0);
        Due.is("snapped stays", x.stripOf(0, 7), 1);
        Due.is("snaps stay", x.stripOf(0, 9), 1);
    }

    private static void contact() {
        SnapStacks x = new SnapStacks();
        Due.is("kind 0, not snapped", x.contact(1, 0), 1);
        Due.is("kind 1, not snapped", x.contact(1, 1), 0);
        Due.is("its kind", x.stripOf(1, 10), 1);
        Due.is("another's kind", x.stripOf(0, 10), 0);
        x.bounds(1, -10, 0, 0);
        x.tick(1);
        Due.is("it is snapped", x.stripOf(1, 7), 1);
        Due.is("it is closed", x.stripOf(1, 11), 1);
        Due.is("kind 0, snapped", x.contact(1, 0), 0);
        Due.is("kind 1, snapped", x.contact(1, 1), 1);
        String before = Due.stateOf(x);
        int[][] wrong = {{-1, 0}, {3, 0}, {0, -1}, {0, 2}, {LEAST, 0}, {0, MOST}};
        for (int[] w : wrong) {
            Due.error(x, "contact(" + w[0] + ", " + w[1] + ")", x.contact(w[0], w[1]), Due.INVALID, before, 4);
        }
    }

    private static void objectsAreApart() {
        SnapStacks x = new SnapStacks();
        SnapStacks y = new SnapStacks();
        String fresh = Due.stateOf(y);
        x.metal(1, 9);
        x.part(0, 1, 1, 0);
        x.set(0, 3);
        x.type('1');
        x.tick(5);
        x.stack(9, 0, 0);
        x.loop(0);
        Due.holds("another object stays new", Due.stateOf(y).equals(fresh));
        Due.is("its history", y.count(3), 0);
        Due.is("its text", y.count(4), 0);
    }
}
