/** Promises 13 to 16: stripOf, partOf, roomOf, count. Ranges and refusals have tests of their own. */
public final class WhatThereIsTest {
    public static void main(String[] args) {
        stripOf();
        partOf();
        roomOf();
        roomsExtremesAtTheirEnds();
        extremesComeBack();
        closedWhateverThePower();
        count();
        countsAtTheirEnds();
        Due.end();
    }

    private static void stripOf() {
        SnapStacks x = new SnapStacks();
        x.part(1, 3, 5, 1);
        x.part(1, 4, 0, 2);
        x.warm(1, 260);
        x.outside(260);
        x.bounds(1, 500, 1200, 4);
        x.contact(1, 1);
        x.tick(3);
        int[] due = {2, 7, 20, 1200, 500, 1200, 4, 0, 3, 0, 1, 0};
        for (int what = 0; what < due.length; what++) {
            Due.is("stripOf(1, " + what + ")", x.stripOf(1, what), due[what]);
        }
        x.tick(2);
        int[] snapped = {2, 7, 20, 1200, 500, 1200, 4, 1, 0, 1, 1, 1};
        for (int what = 0; what < snapped.length; what++) {
            Due.is("snapped: stripOf(1, " + what + ")", x.stripOf(1, what), snapped[what]);
        }
        int[] others = {0, 0, 0, 0, 1000, 3000, 0, 0, 0, 0, 0, 1};
        for (int what = 0; what < others.length; what++) {
            Due.is("stripOf(0, " + what + ")", x.stripOf(0, what), others[what]);
            Due.is("stripOf(2, " + what + ")", x.stripOf(2, what), others[what]);
        }
    }

    private static void partOf() {
        SnapStacks x = new SnapStacks();
        x.part(2, 3, 5, 1);
        x.part(2, 9, 0, 4);
        int[][] due = {{3, 5, 1, 60}, {9, 0, 4, -180}};
        for (int index = 0; index < 2; index++) {
            for (int what = 0; what < 4; what++) {
                Due.is("partOf(2, " + index + ", " + what + ")", x.partOf(2, index, what), due[index][what]);
            }
        }
        Due.is("behind the last part", x.partOf(2, 2, 0), Due.NONE);
        Due.is("another strip's first part", x.partOf(0, 0, 0), Due.NONE);
    }

    private static void roomOf() {
        SnapStacks x = new SnapStacks();
        x.heat(2, 31, 17);
        x.opening(2, 1);
        x.outside(200);
        x.warm(2, 1500);
        int[] due = {1500, 31, 17, 1, 0, Due.NONE, Due.NONE};
        for (int what = 0; what < due.length; what++) {
            Due.is("roomOf(2, " + what + ")", x.roomOf(2, what), due[what]);
        }
        x.tick(1);
        int one = 1500 + 31 - 1300 / 17 - 1300 / 10;
        int[] behind = {one, 31, 17, 1, 1, one, one};
        for (int what = 0; what < behind.length; what++) {
            Due.is("behind a tick: roomOf(2, " + what + ")", x.roomOf(2, what), behind[what]);
        }
        x.warm(2, -500);
        Due.is("warm is no tick: greatest", x.roomOf(2, 5), one);
        Due.is("warm is no tick: least", x.roomOf(2, 6), one);
        x.undo();
        x.undo();
        Due.is("no tick any more: greatest", x.roomOf(2, 5), Due.NONE);
        Due.is("no tick any more: least", x.roomOf(2, 6), Due.NONE);
        Due.is("no tick any more: closed", x.roomOf(2, 4), 0);
    }

    /** "Its greatest warmth behind a tick so far", at both ends of warmth from the first tick on. */
    private static void roomsExtremesAtTheirEnds() {
        SnapStacks x = new SnapStacks();
        x.outside(-500);
        x.warm(0, -500);
        x.tick(1);
        Due.is("the greatest is the least there is", x.roomOf(0, 5), -500);
        Due.is("the least is the least there is", x.roomOf(0, 6), -500);
        x.outside(1500);
        x.warm(0, 1500);
        Due.is("not behind a tick", x.roomOf(0, 5), -500);
        x.tick(1);
        Due.is("the greatest", x.roomOf(0, 5), 1500);
        Due.is("the least", x.roomOf(0, 6), -500);
        SnapStacks y = new SnapStacks();
        y.outside(1500);
        y.warm(1, 1500);
        y.tick(1);
        Due.is("the greatest is the greatest there is", y.roomOf(1, 5), 1500);
        Due.is("the least is the greatest there is", y.roomOf(1, 6), 1500);
        Due.is("another room: from 200", y.roomOf(0, 6), 265);
    }

    private static void extremesComeBack() {
        SnapStacks x = new SnapStacks();
        x.tick(1);
        x.heat(0, 99, 99);
        x.tick(9);
        Due.is("greatest", x.roomOf(0, 5), 195 + 9 * 99 - 0 - 1 - 2 - 3 - 4 - 5 - 6 - 7 - 8);
        x.undo();
        Due.is("greatest behind the undo", x.roomOf(0, 5), 195);
        x.warm(0, -500);
        x.tick(9);
        Due.holds("least", x.roomOf(0, 6) < 0);
        x.undo();
        Due.is("least behind the undo", x.roomOf(0, 6), 195);
    }

    /** "Ticks so far at whose beginning its contact was closed (whatever the power)". */
    private static void closedWhateverThePower() {
        for (int power : new int[] {0, 99}) {
            SnapStacks x = new SnapStacks();
            x.heat(1, power, 99);
            x.bounds(1, -2, -1, 0);
            x.tick(1);
            Due.is("closed at the beginning, open behind it", x.roomOf(1, 4), 1);
            x.tick(5);
            Due.is("open since", x.roomOf(1, 4), 1);
            x.contact(1, 1);
            x.tick(5);
            Due.is("closed since", x.roomOf(1, 4), 6);
            Due.is("another room", x.roomOf(0, 4), 11);
        }
    }

    private static void count() {
        SnapStacks x = new SnapStacks();
        x.bounds(0, -2, -1, 0);
        x.bounds(2, -2, -1, 0);
        x.outside(-7);
        x.set(0, 11);
        x.set(1, 12);
        x.tick(7);
        Due.typeAll(x, "1ab");
        int[] due = {7, 2, -7, 4, 3, 11, 12};
        for (int what = 0; what < due.length; what++) {
            Due.is("count(" + what + ")", x.count(what), due[what]);
        }
        for (int k = 0; k < 6; k++) {
            x.metal(k, 20 + k);
            Due.is("count(1" + k + ")", x.count(10 + k), 20 + k);
        }
    }

    /** Each count where there is nothing, and where there is no place for more. */
    private static void countsAtTheirEnds() {
        SnapStacks x = Scenes.full();
        Due.is("a full history", x.count(3), 4);
        Due.is("a full text", x.count(4), 60);
        x.part(0, 1, 1, 0);
        x.type('1');
        Due.is("still a full history", x.count(3), 4);
        Due.is("still a full text", x.count(4), 60);
        for (int i = 3; i >= 0; i--) {
            x.undo();
            Due.is("one state less", x.count(3), i);
        }
        x.undo();
        Due.is("an empty history", x.count(3), 0);
        x.clearText();
        Due.is("an empty text", x.count(4), 0);
        x.outside(-500);
        Due.is("the least outside", x.count(2), -500);
        x.outside(1500);
        Due.is("the greatest outside", x.count(2), 1500);
        int[][] settings = {{0, 0}, {0, 99}, {1, 1}, {1, 999}};
        for (int[] s : settings) {
            x.set(s[0], s[1]);
            Due.is("setting " + s[0], x.count(5 + s[0]), s[1]);
        }
        for (int k = 0; k < 6; k++) {
            x.metal(k, 0);
            Due.is("the least number", x.count(10 + k), 0);
            x.metal(k, 30);
            Due.is("the greatest number", x.count(10 + k), 30);
        }
    }
}
