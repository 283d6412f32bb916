/** The section "Snaps" of the terms, by promise 12: pulls at the bounds, late ticks, strips that get tired. */
public final class SnapsTest {
    public static void main(String[] args) {
        snapsAtTheBounds();
        stripsOfAllRooms();
        newWarmthPulls();
        eachNumberOfLateTicks();
        aTickWithoutPullCountsAnew();
        pullsBeyondTheLateTicks();
        tiredAtEachMultiple();
        tiredAtTheLeastAndGreatestSetting();
        neverTiredWith0();
        boundThatWouldMeetTheLowOne();
        boundOfTheLeastWayAboveTheLowOne();
        greatestStepOfTheBound();
        ownSnapsOfEachStrip();
        settingThatChangesBetweenSnaps();
        Due.end();
    }

    /** "Its bend is at least the high bound"; "its bend is at most the low bound". */
    private static void snapsAtTheBounds() {
        SnapStacks x = Scenes.still(100, 300, 0);
        Due.is("just below the high bound", Scenes.tickAt(x, 229), 0);
        Due.is("at the high bound", Scenes.tickAt(x, 230), 1);
        Due.is("snapped", x.stripOf(0, 7), 1);
        Due.is("above the high bound while snapped", Scenes.tickAt(x, 300), 0);
        Due.is("just above the low bound", Scenes.tickAt(x, 211), 0);
        Due.is("at the low bound", Scenes.tickAt(x, 210), 1);
        Due.is("snapped back", x.stripOf(0, 7), 0);
        Due.is("snaps, not those back", x.stripOf(0, 9), 1);
        Due.is("below the low bound while not snapped", Scenes.tickAt(x, 100), 0);
        Due.is("the sum of the snaps", x.count(1), 1);
        Due.is("far above the high bound", Scenes.tickAt(x, 1500), 1);
        Due.is("far below the low bound", Scenes.tickAt(x, -500), 1);
    }

    private static void stripsOfAllRooms() {
        SnapStacks all = new SnapStacks();
        for (int k = 0; k < 3; k++) {
            all.bounds(k, -1, 0, 0);
        }
        Due.is("three strips snap", all.tick(1), 3);
        all.bounds(1, 0, 1, 0);
        Due.is("one snaps back", all.tick(2), 1);
        Due.is("all snaps", all.count(1), 3);
    }

    /** "Then all strips are pulled, or not, by the new warmth of their rooms." */
    private static void newWarmthPulls() {
        SnapStacks x = Scenes.still(100, 300, 0);
        x.heat(0, 30, 99);
        Due.is("200 + 30", x.tick(1), 1);
        x.warm(0, 219);
        x.heat(0, 0, 2);
        Due.is("219 - 9", x.tick(1), 1);
    }

    /** "Late ticks (0 to 5)": one pull more than there are late ticks changes a strip. */
    private static void eachNumberOfLateTicks() {
        for (int late = 0; late <= 5; late++) {
            SnapStacks x = Scenes.still(100, 300, late);
            for (int way = 0; way < 2; way++) {
                int warmth = way == 0 ? 230 : 210;
                String name = late + " late ticks, way " + way;
                for (int pulls = 1; pulls <= late; pulls++) {
                    Due.is(name + ": pull " + pulls, Scenes.tickAt(x, warmth), 0);
                    Due.is(name + ": counted", x.stripOf(0, 8), pulls);
                    Due.is(name + ": not yet changed", x.stripOf(0, 7), way);
                }
                Due.is(name + ": the last pull", Scenes.tickAt(x, warmth), 1);
                Due.is(name + ": counted anew", x.stripOf(0, 8), 0);
                Due.is(name + ": changed", x.stripOf(0, 7), 1 - way);
            }
            Due.is(late + " late ticks: snaps", x.stripOf(0, 9), 1);
        }
    }

    /** "In a tick without a pull they are counted anew." */
    private static void aTickWithoutPullCountsAnew() {
        SnapStacks x = Scenes.still(100, 300, 5);
        for (int warmth : new int[] {240, 229, 240, 240, 240, 240, 240, 200, 230}) {
            Due.is("never six pulls in a row", Scenes.tickAt(x, warmth), 0);
            Due.is("none without a pull", warmth < 230 ? x.stripOf(0, 8) : 0, 0);
        }
        Due.is("one pull", x.stripOf(0, 8), 1);
        for (int i = 0; i < 4; i++) {
            Scenes.tickAt(x, 230);
        }
        Due.is("five pulls", x.stripOf(0, 8), 5);
        Due.is("the sixth in a row", Scenes.tickAt(x, 230), 1);
    }

    /** "If at least as many pulls are counted as its late ticks are": there can be more. */
    private static void pullsBeyondTheLateTicks() {
        SnapStacks x = Scenes.still(100, 300, 5);
        for (int i = 0; i < 5; i++) {
            Scenes.tickAt(x, 230);
        }
        x.bounds(0, 100, 300, 2);
        Due.is("five are counted, two would do", Scenes.tickAt(x, 230), 1);
        Due.is("counted anew", x.stripOf(0, 8), 0);
        SnapStacks y = Scenes.still(100, 300, 2);
        Scenes.tickAt(y, 230);
        Scenes.tickAt(y, 230);
        y.bounds(0, 100, 300, 3);
        Due.is("two are counted, three are asked for", Scenes.tickAt(y, 230), 0);
        Due.is("three are counted", Scenes.tickAt(y, 230), 1);
    }

    private static void snapAndBack(SnapStacks x) {
        Due.is("a snap", Scenes.tickAt(x, 1500), 1);
        Due.is("a snap back", Scenes.tickAt(x, -500), 1);
    }

    private static void tiredAtEachMultiple() {
        SnapStacks x = Scenes.still(100, 300, 0);
        x.set(0, 2);
        x.set(1, 60);
        int[] high = {300, 240, 240, 180, 180, 120, 120, 120};
        for (int i = 0; i < high.length; i++) {
            Due.is("snap " + (i + 1), Scenes.tickAt(x, 300), 1);
            Due.is("the high bound behind snap " + (i + 1), x.stripOf(0, 5), high[i]);
            Due.is("its snap back", Scenes.tickAt(x, 100), 1);
            Due.is("and behind the snap back", x.stripOf(0, 5), high[i]);
        }
        Due.is("the low bound stays", x.stripOf(0, 4), 100);
    }

    /** "Snaps until a strip is more tired (0 to 99)", "by how much (1 to 999)". */
    private static void tiredAtTheLeastAndGreatestSetting() {
        SnapStacks x = Scenes.still(-90000, 9000, 0);
        x.set(0, 1);
        x.set(1, 1);
        for (int snap = 1; snap <= 3; snap++) {
            Scenes.tickAt(x, 1500);
            Due.is("behind each snap", x.stripOf(0, 5), 9000 - snap);
            x.bounds(0, 100, x.stripOf(0, 5), 0);
            Scenes.tickAt(x, 200);
        }
        // A strip that snaps, and snaps back, with each second tick.
        SnapStacks y = Scenes.still(0, 50, 0);
        y.heat(0, 20, 1);
        y.set(0, 99);
        y.set(1, 1);
        y.tick(196);
        Due.is("98 snaps", y.stripOf(0, 9), 98);
        Due.is("not yet", y.stripOf(0, 5), 50);
        y.tick(1);
        Due.is("99 snaps", y.stripOf(0, 9), 99);
        Due.is("more tired", y.stripOf(0, 5), 49);
        y.tick(197);
        Due.is("197 snaps", y.stripOf(0, 9), 197);
        Due.is("not again", y.stripOf(0, 5), 49);
        y.tick(2);
        Due.is("198 snaps", y.stripOf(0, 9), 198);
        Due.is("again", y.stripOf(0, 5), 48);
    }

    /** "With setting 0 as 0 no strip gets tired." */
    private static void neverTiredWith0() {
        SnapStacks x = Scenes.still(0, 50, 0);
        x.heat(0, 20, 1);
        x.set(1, 1);
        Due.is("a hundred snaps, and as many back", x.tick(200), 200);
        Due.is("the snaps", x.stripOf(0, 9), 100);
        Due.is("the high bound stays", x.stripOf(0, 5), 50);
        x.set(0, 1);
        x.set(0, 0);
        Due.is("once more", x.tick(200), 200);
        Due.is("the high bound stays", x.stripOf(0, 5), 50);
    }

    /** "If it stays above the low one so; otherwise it stays." */
    private static void boundThatWouldMeetTheLowOne() {
        SnapStacks x = Scenes.still(100, 300, 0);
        x.set(0, 1);
        x.set(1, 200);
        snapAndBack(x);
        Due.is("it would come to the low bound", x.stripOf(0, 5), 300);
        x.set(1, 201);
        snapAndBack(x);
        Due.is("it would come below the low bound", x.stripOf(0, 5), 300);
        x.set(1, 199);
        snapAndBack(x);
        Due.is("it stays just above the low bound", x.stripOf(0, 5), 101);
        x.set(1, 1);
        snapAndBack(x);
        Due.is("no place is left", x.stripOf(0, 5), 101);
    }

    private static void boundOfTheLeastWayAboveTheLowOne() {
        SnapStacks x = new SnapStacks();
        x.set(0, 1);
        x.set(1, 1);
        x.bounds(0, -90000, -89998, 0);
        Due.is("a snap", x.tick(1), 1);
        Due.is("the least high bound", x.stripOf(0, 5), -89999);
        SnapStacks y = new SnapStacks();
        y.set(0, 1);
        y.set(1, 1);
        y.bounds(0, -90000, -89999, 0);
        Due.is("a snap", y.tick(1), 1);
        Due.is("it stays", y.stripOf(0, 5), -89999);
    }

    private static void greatestStepOfTheBound() {
        SnapStacks x = Scenes.still(-700, 300, 0);
        x.set(0, 1);
        x.set(1, 999);
        snapAndBack(x);
        Due.is("300 - 999 is just above -700", x.stripOf(0, 5), -699);
        SnapStacks y = Scenes.still(-699, 300, 0);
        y.set(0, 1);
        y.set(1, 999);
        snapAndBack(y);
        Due.is("300 - 999 is not above -699", y.stripOf(0, 5), 300);
    }

    /** "When its snaps have come to a multiple": those of other strips don't count. */
    private static void ownSnapsOfEachStrip() {
        SnapStacks x = Scenes.still(100, 300, 0);
        x.part(1, 2, 1, 0);
        x.bounds(1, 100, 300, 0);
        x.set(0, 2);
        x.warm(1, 300);
        Scenes.tickAt(x, 300);
        Due.is("snaps of two strips", x.count(1), 2);
        Due.is("a strip has its own snaps: 0", x.stripOf(0, 5), 300);
        Due.is("a strip has its own snaps: 1", x.stripOf(1, 5), 300);
    }

    private static void settingThatChangesBetweenSnaps() {
        SnapStacks x = Scenes.still(100, 300, 0);
        snapAndBack(x);
        snapAndBack(x);
        x.set(0, 3);
        snapAndBack(x);
        Due.is("the third snap of all", x.stripOf(0, 5), 250);
        x.set(0, 5);
        snapAndBack(x);
        Due.is("the fourth is no multiple of 5", x.stripOf(0, 5), 250);
        snapAndBack(x);
        Due.is("the fifth is one", x.stripOf(0, 5), 200);
        x.set(0, 99);
        snapAndBack(x);
        Due.is("the sixth is no multiple of 99", x.stripOf(0, 5), 200);
    }
}
