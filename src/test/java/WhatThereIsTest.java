/** Promises 13 to 16: stripOf, partOf, roomOf, count. */
public final class WhatThereIsTest {
    private static final int LEAST = Integer.MIN_VALUE;
    private static final int MOST = Integer.MAX_VALUE;

    public static void main(String[] args) {
        stripOf();
        partOf();
        roomOf();
        extremesComeBack();
        count();
        Due.end();
    }

    private static void stripOf() {
        SnapStacks x = new SnapStacks();
        x.part(1, 3, 5, 1);
        x.part(1, 4, 0, 2);
        x.warm(1, 260);
        x.outside(260);
        x.bounds(1, 500, 1200, 4);
        x.contact(1, 1);
        x.tick(3);
        int[] due = {2, 7, 20, 1200, 500, 1200, 4, 0, 3, 0, 1, 0};
        for (int what = 0; what < due.length; what++) {
            Due.is("stripOf(1, " + what + ")", x.stripOf(1, what), due[what]);
        }
        x.tick(2);
        int[] snapped = {2, 7, 20, 1200, 500, 1200, 4, 1, 0, 1, 1, 1};
        for (int what = 0; what < snapped.length; what++) {
            Due.is("snapped: stripOf(1, " + what + ")", x.stripOf(1, what), snapped[what]);
        }
        String before = Due.stateOf(x);
        int[][] wrong = {{-1, 0}, {3, 0}, {0, -1}, {0, 12}, {LEAST, 0}, {MOST, 12}, {0, LEAST}, {0, MOST}};
        for (int[] w : wrong) {
            Due.error(x, "stripOf(" + w[0] + ", " + w[1] + ")", x.stripOf(w[0], w[1]), Due.INVALID, before, 4);
        }
    }

    private static void partOf() {
        SnapStacks x = new SnapStacks();
        x.part(2, 3, 5, 1);
        x.part(2, 9, 0, 4);
        int[][] due = {{3, 5, 1, 60}, {9, 0, 4, -180}};
        for (int index = 0; index < 2; index++) {
            for (int what = 0; what < 4; what++) {
                Due.is("partOf(2, " + index + ", " + what + ")", x.partOf(2, index, what), due[index][what]);
            }
        }
        String before = Due.stateOf(x);
        int[][] none = {{2, 2, 0}, {2, 7, 3}, {2, 8, 0}, {2, MOST, 0}, {0, 0, 0}};
        for (int[] w : none) {
            Due.error(x, "partOf(" + w[0] + ", " + w[1] + ", " + w[2] + ")",
                    x.partOf(w[0], w[1], w[2]), Due.NONE, before, 2);
        }
        int[][] wrong = {{-1, 0, 0}, {3, 0, 0}, {2, -1, 0}, {2, LEAST, 0}, {2, 0, -1}, {2, 0, 4}, {2, 5, 4},
            {0, 0, MOST}};
        for (int[] w : wrong) {
            Due.error(x, "partOf(" + w[0] + ", " + w[1] + ", " + w[2] + ")",
                    x.partOf(w[0], w[1], w[2]), Due.INVALID, before, 2);
        }
    }

    private static void roomOf() {
        SnapStacks x = new SnapStacks();
        x.heat(2, 31, 17);
        x.opening(2, 1);
        x.outside(200);
        x.warm(2, 1500);
        int[] due = {1500, 31, 17, 1, 0, Due.NONE, Due.NONE};
        for (int what = 0; what < due.length; what++) {
            Due.is("roomOf(2, " + what + ")", x.roomOf(2, what), due[what]);
        }
        x.tick(1);
        int one = 1500 + 31 - 1300 / 17 - 1300 / 10;
        int[] behind = {one, 31, 17, 1, 1, one, one};
        for (int what = 0; what < behind.length; what++) {
            Due.is("behind a tick: roomOf(2, " + what + ")", x.roomOf(2, what), behind[what]);
        }
        x.warm(2, -500);
        Due.is("warm is no tick: greatest", x.roomOf(2, 5), one);
        Due.is("warm is no tick: least", x.roomOf(2, 6), one);
        x.undo();
        x.undo();
        Due.is("no tick any more: greatest", x.roomOf(2, 5), Due.NONE);
        Due.is("no tick any more: least", x.roomOf(2, 6), Due.NONE);
        Due.is("no tick any more: closed", x.roomOf(2, 4), 0);
        String before = Due.stateOf(x);
        int[][] wrong = {{-1, 0}, {3, 0}, {0, -1}, {0, 7}, {3, 5}, {LEAST, 0}, {0, MOST}};
        for (int[] w : wrong) {
            Due.error(x, "roomOf(" + w[0] + ", " + w[1] + ")", x.roomOf(w[0], w[1]), Due.INVALID, before, 2);
        }
    }

    private static void extremesComeBack() {
        SnapStacks x = new SnapStacks();
        x.tick(1);
        x.heat(0, 99, 99);
        x.tick(9);
        Due.is("greatest", x.roomOf(0, 5), 195 + 9 * 99 - 0 - 1 - 2 - 3 - 4 - 5 - 6 - 7 - 8);
        x.undo();
        Due.is("greatest behind the undo", x.roomOf(0, 5), 195);
        x.warm(0, -500);
        x.tick(9);
        Due.holds("least", x.roomOf(0, 6) < 0);
        x.undo();
        Due.is("least behind the undo", x.roomOf(0, 6), 195);
    }

    private static void count() {
        SnapStacks x = new SnapStacks();
        x.bounds(0, -2, -1, 0);
        x.bounds(2, -2, -1, 0);
        x.outside(-7);
        x.set(0, 11);
        x.set(1, 12);
        x.tick(7);
        Due.typeAll(x, "1ab");
        int[] due = {7, 2, -7, 4, 3, 11, 12};
        for (int what = 0; what < due.length; what++) {
            Due.is("count(" + what + ")", x.count(what), due[what]);
        }
        for (int k = 0; k < 6; k++) {
            x.metal(k, 20 + k);
            Due.is("count(1" + k + ")", x.count(10 + k), 20 + k);
        }
        String before = Due.stateOf(x);
        for (int w : new int[] {-1, 7, 8, 9, 16, LEAST, LEAST + 9, MOST}) {
            Due.error(x, "count(" + w + ")", x.count(w), Due.INVALID, before, 4);
        }
    }
}
