/** Promises 1 to 6: a new object, metal, part, cut, bounds, contact. Ranges and refusals have tests of their own. */
public final class MetalsAndStripsTest {
    public static void main(String[] args) {
        newObject();
        newObjectHasNothing();
        metal();
        part();
        partsOfAllLengthsAndMetals();
        greatestStrip();
        cut();
        bounds();
        boundsAtTheirEnds();
        boundsLeaveSnapAndPulls();
        boundsPullNothing();
        contact();
        objectsAreApart();
        Due.end();
    }

    private static void newObject() {
        SnapStacks x = new SnapStacks();
        int[] strip = {0, 0, 0, 0, 1000, 3000, 0, 0, 0, 0, 0, 1};
        int[] room = {200, 0, 20, 0, 0, Due.NONE, Due.NONE};
        for (int k = 0; k < 3; k++) {
            for (int what = 0; what < strip.length; what++) {
                Due.is("new: stripOf(" + k + ", " + what + ")", x.stripOf(k, what), strip[what]);
            }
            for (int what = 0; what < room.length; what++) {
                Due.is("new: roomOf(" + k + ", " + what + ")", x.roomOf(k, what), room[what]);
            }
            Due.is("new: partOf", x.partOf(k, 0, 0), Due.NONE);
        }
        int[] counts = {0, 0, 100, 0, 0, 0, 50};
        for (int what = 0; what < counts.length; what++) {
            Due.is("new: count(" + what + ")", x.count(what), counts[what]);
        }
        for (int k = 0; k < 6; k++) {
            Due.is("new: count(1" + k + ")", x.count(10 + k), 5 * k);
        }
    }

    /** Each first call is made on an object of its own. */
    private static void newObjectHasNothing() {
        Due.is("new: undo", new SnapStacks().undo(), Due.IMPOSSIBLE);
        Due.is("new: cut", new SnapStacks().cut(0, 1), Due.IMPOSSIBLE);
        Due.is("new: fault", new SnapStacks().fault(0), Due.NONE);
        Due.is("new: read of the empty text", new SnapStacks().read(0), 0);
        Due.is("new: clearText", new SnapStacks().clearText(), 0);
        Due.is("new: stack", new SnapStacks().stack(5, 0, 1), 1);
        Due.is("new: tripsAt", new SnapStacks().tripsAt(2, 0), Due.NONE);
        Due.is("new: bend", new SnapStacks().bend(1, 1500), 0);
        // 200, 195, 191, 187 and so on by a twentieth of what is above 100, down to 119.
        int ticks = 0;
        for (int warmth = 200; warmth > 119; warmth -= (warmth - 100) / 20) {
            ticks++;
        }
        Due.is("new: lead", new SnapStacks().loop(0), ticks);
        Due.is("new: period", new SnapStacks().loop(1), 1);
        Due.is("new: snaps in a period", new SnapStacks().loop(2), 0);
    }

    private static void metal() {
        SnapStacks x = new SnapStacks();
        Due.is("metal(5, 30)", x.metal(5, 30), 25);
        Due.is("metal(5, 0)", x.metal(5, 0), 30);
        Due.is("metal(5, 0) again", x.metal(5, 0), 0);
        Due.is("metal(0, 7)", x.metal(0, 7), 0);
        Due.is("count(10)", x.count(10), 7);
        Due.is("count(11)", x.count(11), 5);
        Due.is("count(15)", x.count(15), 0);
        x.part(1, 3, 0, 2);
        Due.is("a part by the first numbers", x.stripOf(1, 2), -9);
        x.metal(2, 1);
        Due.is("the same part by new ones", x.stripOf(1, 2), 18);
        Due.is("the part itself", x.partOf(1, 0, 3), 18);
    }

    private static void part() {
        SnapStacks x = new SnapStacks();
        Due.is("the first part", x.part(2, 9, 5, 0), 1);
        Due.is("the second part", x.part(2, 1, 0, 5), 2);
        Due.is("a part of another strip", x.part(0, 4, 3, 3), 1);
        Due.is("its rate", x.stripOf(2, 2), 9 * 25 - 25);
        Due.is("the first part's length", x.partOf(2, 0, 0), 9);
        Due.is("the last part's length", x.partOf(2, 1, 0), 1);
        Due.is("the length", x.stripOf(2, 1), 10);
        for (int i = 3; i <= 8; i++) {
            Due.is("part " + i, x.part(2, i, 1, 0), i);
        }
        Due.is("another strip has place", x.part(0, 1, 0, 0), 2);
    }

    private static void partsOfAllLengthsAndMetals() {
        for (int length = 1; length <= 9; length++) {
            for (int pair = 0; pair < 36; pair++) {
                SnapStacks x = new SnapStacks();
                x.part(1, length, pair / 6, pair % 6);
                int[] due = {length, pair / 6, pair % 6, length * 5 * (pair / 6 - pair % 6)};
                for (int what = 0; what < 4; what++) {
                    Due.is("partOf(1, 0, " + what + ")", x.partOf(1, 0, what), due[what]);
                }
                Due.is("the strip's length", x.stripOf(1, 1), length);
                Due.is("the strip's rate", x.stripOf(1, 2), due[3]);
            }
        }
    }

    /** "A strip has at most 8 parts", each of a length of at most 9, of metals that differ by at most 30. */
    private static void greatestStrip() {
        SnapStacks x = Scenes.withMetals(0, 0, 0, 0, 0, 30);
        for (int i = 0; i < 8; i++) {
            x.part(0, 9, 5, 0);
            x.part(2, 9, 0, 5);
        }
        x.warm(0, 1500);
        x.warm(2, 1500);
        Due.is("the greatest length", x.stripOf(0, 1), 72);
        Due.is("a part's greatest rate", x.partOf(0, 7, 3), 270);
        Due.is("a part's least rate", x.partOf(2, 7, 3), -270);
        Due.is("the greatest rate", x.stripOf(0, 2), 2160);
        Due.is("the least rate", x.stripOf(2, 2), -2160);
        Due.is("the greatest bend", x.stripOf(0, 3), 2160 * 1300);
        Due.is("the least bend", x.stripOf(2, 3), -2160 * 1300);
        Due.is("bounds tells the greatest bend", x.bounds(0, 0, 1, 0), 2160 * 1300);
        Due.is("bounds tells the least bend", x.bounds(2, 0, 1, 0), -2160 * 1300);
        Due.is("the greatest rate at the least warmth", x.bend(0, -500), -2160 * 700);
        Due.is("the least rate at the least warmth", x.bend(2, -500), 2160 * 700);
    }

    private static void cut() {
        SnapStacks x = new SnapStacks();
        for (int i = 1; i <= 8; i++) {
            x.part(1, i, 1, 0);
        }
        Due.is("cut(1, 3)", x.cut(1, 3), 5);
        Due.is("the last part left", x.partOf(1, 4, 0), 5);
        Due.is("the part behind it", x.partOf(1, 5, 0), Due.NONE);
        Due.is("the length", x.stripOf(1, 1), 15);
        Due.is("the rate", x.stripOf(1, 2), 75);
        Due.is("a part behind the cut", x.part(1, 9, 2, 0), 6);
        Due.is("its length", x.partOf(1, 5, 0), 9);
        Due.is("cut(1, 6)", x.cut(1, 6), 0);
        Due.is("no length is left", x.stripOf(1, 1), 0);
        Due.is("no rate is left", x.stripOf(1, 2), 0);
        Due.is("the first part again", x.part(1, 2, 3, 4), 1);
        Due.is("it is the only one", x.stripOf(1, 1), 2);
    }

    private static void bounds() {
        SnapStacks x = new SnapStacks();
        x.part(0, 2, 3, 1);
        x.warm(0, 190);
        Due.is("bounds answers the bend", x.bounds(0, -90000, 90000, 5), -200);
        int[] due = {-90000, 90000, 5};
        int[] others = {1000, 3000, 0};
        for (int i = 0; i < 3; i++) {
            Due.is("stripOf(0, " + (4 + i) + ")", x.stripOf(0, 4 + i), due[i]);
            Due.is("stripOf(1, " + (4 + i) + ") stays", x.stripOf(1, 4 + i), others[i]);
        }
    }

    /** "low: -90000 to 89999; high: low plus 1 to 90000": both ends are held to, and trip at exactly that bend. */
    private static void boundsAtTheirEnds() {
        SnapStacks x = new SnapStacks();
        x.part(0, 9, 5, 0);
        x.bounds(0, 89999, 90000, 0);
        Due.is("the greatest low one", x.stripOf(0, 4), 89999);
        Due.is("a bend of 89775", Scenes.tickAt(x, 599), 0);
        Due.is("a bend of 90000", Scenes.tickAt(x, 600), 1);
        Due.is("back at once, a bend of 89775", Scenes.tickAt(x, 599), 1);
        x.bounds(0, -90000, -89999, 0);
        Due.is("the least high one", x.stripOf(0, 5), -89999);
        Due.is("a bend of -90000", Scenes.tickAt(x, -200), 0);
        Due.is("a bend of -89775", Scenes.tickAt(x, -199), 1);
        Due.is("still snapped", Scenes.tickAt(x, -199), 0);
        Due.is("back, a bend of -90000", Scenes.tickAt(x, -200), 1);
    }

    /** "(Whether it is snapped, and pulls that are counted, stay.)" */
    private static void boundsLeaveSnapAndPulls() {
        SnapStacks x = new SnapStacks();
        x.bounds(0, -10, 0, 3);
        x.tick(3);
        Due.is("three pulls", x.stripOf(0, 8), 3);
        x.bounds(0, -10, 0, 1);
        Due.is("pulls stay", x.stripOf(0, 8), 3);
        Due.is("more pulls than late ticks do", x.tick(1), 1);
        Due.is("pulls are counted anew", x.stripOf(0, 8), 0);
        x.bounds(0, 500, 600, 0);
        Due.is("snapped stays", x.stripOf(0, 7), 1);
        Due.is("snaps stay", x.stripOf(0, 9), 1);
        SnapStacks y = new SnapStacks();
        y.bounds(0, -10, 0, 5);
        y.tick(5);
        y.bounds(0, -10, 0, 0);
        Due.is("five pulls stay with 0 late ticks", y.stripOf(0, 8), 5);
        y.bounds(0, 10, 20, 0);
        y.tick(1);
        Due.is("a tick without a pull", y.stripOf(0, 8), 0);
        Due.is("it has not snapped", y.stripOf(0, 9), 0);
    }

    private static void boundsPullNothing() {
        SnapStacks x = new SnapStacks();
        x.bounds(0, -1, 0, 0);
        Due.is("the bend is at the high bound", x.stripOf(0, 3), x.stripOf(0, 5));
        Due.is("not snapped without a tick", x.stripOf(0, 7), 0);
        Due.is("no pull without a tick", x.stripOf(0, 8), 0);
        Due.is("it snaps with one", x.tick(1), 1);
    }

    private static void contact() {
        SnapStacks x = new SnapStacks();
        Due.is("kind 0, not snapped", x.contact(1, 0), 1);
        Due.is("kind 1, not snapped", x.contact(1, 1), 0);
        Due.is("kind 1 again", x.contact(1, 1), 0);
        Due.is("its kind", x.stripOf(1, 10), 1);
        Due.is("another's kind", x.stripOf(0, 10), 0);
        x.bounds(1, -10, 0, 0);
        x.tick(1);
        Due.is("it is snapped", x.stripOf(1, 7), 1);
        Due.is("it is closed", x.stripOf(1, 11), 1);
        Due.is("kind 0, snapped", x.contact(1, 0), 0);
        Due.is("it is open", x.stripOf(1, 11), 0);
        Due.is("kind 1, snapped", x.contact(1, 1), 1);
    }

    private static void objectsAreApart() {
        SnapStacks x = new SnapStacks();
        SnapStacks y = new SnapStacks();
        x.metal(1, 9);
        x.part(0, 1, 1, 0);
        x.set(0, 3);
        x.type('1');
        x.tick(5);
        x.stack(9, 0, 0);
        x.loop(0);
        Due.same("another object stays new", Due.stateOf(y), Due.stateOf(new SnapStacks()));
        Due.is("its history", y.count(3), 0);
    }
}
