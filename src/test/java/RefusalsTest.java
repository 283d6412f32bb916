import java.util.function.Supplier;
import java.util.function.ToIntFunction;

/**
 * The errors other than that of a range, and which one is told where two would do: INVALID_ARGUMENT rather
 * than NOT_POSSIBLE, LIMIT_REACHED or NOT_FOUND. Each refused call changes nothing.
 */
public final class RefusalsTest {
    private static final int MOST = Integer.MAX_VALUE;

    public static void main(String[] args) {
        partOfFullStrip();
        cutOfTooMany();
        partThatIsNotThere();
        roomBeforeTheFirstTick();
        warmthThatIsNotThere();
        loopThatIsNotTold();
        stackThatIsNotThere();
        undoOfNothing();
        typeIntoFullText();
        faultThatIsNotThere();
        readOfFaultyText();
        refusedChangesKeepTheHistory();
        Due.end();
    }

    private static void due(String call, Supplier<SnapStacks> made, ToIntFunction<SnapStacks> calling, int want) {
        Due.refused(call, made, calling, want);
    }

    /** "LIMIT_REACHED if it has 8." */
    private static void partOfFullStrip() {
        for (int k = 0; k < 3; k++) {
            int strip = k;
            due("part of full strip " + k, Scenes::full, x -> x.part(strip, 1, 0, 0), Due.LIMIT);
            due("length 0", Scenes::full, x -> x.part(strip, 0, 0, 0), Due.INVALID);
            due("length 10", Scenes::full, x -> x.part(strip, 10, 0, 0), Due.INVALID);
            due("upper metal 6", Scenes::full, x -> x.part(strip, 1, 6, 0), Due.INVALID);
            due("lower metal -1", Scenes::full, x -> x.part(strip, 1, 0, -1), Due.INVALID);
        }
        due("strip 3 of full ones", Scenes::full, x -> x.part(3, 1, 0, 0), Due.INVALID);
        due("strip -1 of full ones", Scenes::full, x -> x.part(-1, 1, 0, 0), Due.INVALID);
        SnapStacks x = Scenes.full();
        x.cut(1, 1);
        Due.is("a full strip less one part has place", x.part(1, 9, 5, 0), 8);
        Due.is("and is full then", x.part(1, 9, 5, 0), Due.LIMIT);
        x.undo();
        Due.is("it has place behind an undo", x.part(1, 9, 5, 0), 8);
        SnapStacks y = Scenes.withText(Scenes.EIGHT_PARTS);
        y.read(0);
        Due.is("eight parts that were read are full, too", y.part(0, 1, 1, 0), Due.LIMIT);
    }

    /** "NOT_POSSIBLE if it has not so many." */
    private static void cutOfTooMany() {
        for (int parts = 0; parts <= 8; parts++) {
            String text = Scenes.EIGHT_PARTS.substring(0, Math.max(0, 4 * parts - 1));
            Supplier<SnapStacks> made = () -> {
                SnapStacks x = Scenes.withText(text);
                x.read(2);
                return x;
            };
            for (int many = 1; many <= 8; many++) {
                int cut = many;
                if (many <= parts) {
                    Due.is("cut(2, " + many + ") of " + parts, made.get().cut(2, many), parts - many);
                } else {
                    due("cut(2, " + many + ") of " + parts, made, x -> x.cut(2, cut), Due.IMPOSSIBLE);
                }
            }
            due("cut(2, 9) of " + parts, made, x -> x.cut(2, 9), Due.INVALID);
            due("cut(2, 0) of " + parts, made, x -> x.cut(2, 0), Due.INVALID);
        }
        due("cut(3, 1) of none", Scenes::fresh, x -> x.cut(3, 1), Due.INVALID);
        due("cut(-1, 8) of none", Scenes::fresh, x -> x.cut(-1, 8), Due.INVALID);
    }

    /** "NOT_FOUND if there are not so many." */
    private static void partThatIsNotThere() {
        due("the first part of none", Scenes::fresh, x -> x.partOf(0, 0, 0), Due.NONE);
        due("the third part of two", Scenes::busy, x -> x.partOf(0, 2, 3), Due.NONE);
        due("the ninth part", Scenes::full, x -> x.partOf(2, 8, 1), Due.NONE);
        due("a part far behind", Scenes::full, x -> x.partOf(2, MOST, 1), Due.NONE);
        Due.is("the eighth part", Scenes.full().partOf(2, 7, 0), 8);
        due("strip 3 and no part", Scenes::fresh, x -> x.partOf(3, 0, 0), Due.INVALID);
        due("what 4 and no part", Scenes::fresh, x -> x.partOf(0, 0, 4), Due.INVALID);
        due("what -1 and no part", Scenes::full, x -> x.partOf(0, 8, -1), Due.INVALID);
        due("index -1 and no part", Scenes::fresh, x -> x.partOf(0, -1, 0), Due.INVALID);
        SnapStacks x = Scenes.full();
        x.cut(1, 3);
        Due.is("a part that was cut off", x.partOf(1, 5, 0), Due.NONE);
        Due.is("the one before it", x.partOf(1, 4, 0), 5);
        x.undo();
        Due.is("the part is there again", x.partOf(1, 5, 0), 6);
    }

    /** "NOT_FOUND for 5 and 6 if there was no tick." */
    private static void roomBeforeTheFirstTick() {
        for (int k = 0; k < 3; k++) {
            int room = k;
            due("greatest of room " + k, Scenes::fresh, x -> x.roomOf(room, 5), Due.NONE);
            due("least of room " + k, Scenes::fresh, x -> x.roomOf(room, 6), Due.NONE);
            due("what 7 of room " + k, Scenes::fresh, x -> x.roomOf(room, 7), Due.INVALID);
            Due.is("4 of room " + k, new SnapStacks().roomOf(room, 4), 0);
        }
        due("greatest of room 3", Scenes::fresh, x -> x.roomOf(3, 5), Due.INVALID);
        due("least of room -1", Scenes::fresh, x -> x.roomOf(-1, 6), Due.INVALID);
    }

    /** "NOT_FOUND if there is none." */
    private static void warmthThatIsNotThere() {
        due("no warmth snaps a strip without parts", Scenes::fresh, x -> x.tripsAt(0, 0), Due.NONE);
        due("what 2 where there is none", Scenes::fresh, x -> x.tripsAt(0, 2), Due.INVALID);
        due("strip 3 where there is none", Scenes::fresh, x -> x.tripsAt(3, 0), Due.INVALID);
        Supplier<SnapStacks> below0 = () -> {
            SnapStacks x = new SnapStacks();
            x.bounds(0, -2, -1, 0);
            return x;
        };
        due("no warmth pulls such a strip back", below0, x -> x.tripsAt(0, 1), Due.NONE);
        due("what -1 where there is none", below0, x -> x.tripsAt(0, -1), Due.INVALID);
    }

    /** "NOT_FOUND if it is not told." */
    private static void loopThatIsNotTold() {
        Supplier<SnapStacks> made = () -> {
            SnapStacks x = new SnapStacks();
            int[] powers = {23, 25, 30};
            int[] divisors = {55, 87, 97};
            int[][] bounds = {{183, 464, 3}, {-99, -36, 2}, {135, 510, 4}};
            for (int k = 0; k < 3; k++) {
                x.part(k, 1, 1, 0);
                x.heat(k, powers[k], divisors[k]);
                x.bounds(k, bounds[k][0], bounds[k][1], bounds[k][2]);
            }
            return x;
        };
        for (int what = 0; what <= 2; what++) {
            int asked = what;
            due("loop(" + what + ") that is not told", made, x -> x.loop(asked), Due.NONE);
        }
        due("loop(3) that is not told", made, x -> x.loop(3), Due.INVALID);
        due("loop(-1) that is not told", made, x -> x.loop(-1), Due.INVALID);
    }

    /** "NOT_FOUND if no stack of at most 3 parts bends so, or it has not so many parts." */
    private static void stackThatIsNotThere() {
        due("no stack bends by 7", Scenes::fresh, x -> x.stack(7, -1, 0), Due.NONE);
        due("no part of none", Scenes::fresh, x -> x.stack(7, 0, 2), Due.NONE);
        due("no stack bends by 900", Scenes::fresh, x -> x.stack(900, -1, 0), Due.NONE);
        due("no stack bends by -900", Scenes::fresh, x -> x.stack(-900, MOST, 0), Due.NONE);
        due("no part bends by 0", Scenes::fresh, x -> x.stack(0, 0, 0), Due.NONE);
        due("the second part of one", Scenes::fresh, x -> x.stack(5, 1, 0), Due.NONE);
        due("the third part of two", Scenes::fresh, x -> x.stack(65, 2, 0), Due.NONE);
        due("the fourth part of three", Scenes::fresh, x -> x.stack(675, 3, 0), Due.NONE);
        due("a part far behind", Scenes::fresh, x -> x.stack(675, MOST, 2), Due.NONE);
        due("901", Scenes::fresh, x -> x.stack(901, 9, 0), Due.INVALID);
        due("-901", Scenes::fresh, x -> x.stack(-901, -1, 0), Due.INVALID);
        due("what 1 for how many of none", Scenes::fresh, x -> x.stack(7, -1, 1), Due.INVALID);
        due("what 2 for how many", Scenes::fresh, x -> x.stack(5, -1, 2), Due.INVALID);
        due("what 3 of no part", Scenes::fresh, x -> x.stack(7, 0, 3), Due.INVALID);
        due("what -1 of no part", Scenes::fresh, x -> x.stack(5, 1, -1), Due.INVALID);
        due("index -2 of no stack", Scenes::fresh, x -> x.stack(7, -2, 0), Due.INVALID);
    }

    /** "NOT_POSSIBLE if it is empty." */
    private static void undoOfNothing() {
        due("undo of a new object", Scenes::fresh, SnapStacks::undo, Due.IMPOSSIBLE);
        Supplier<SnapStacks> allUndone = () -> {
            SnapStacks x = Scenes.busy();
            for (int i = 0; i < 4; i++) {
                x.undo();
            }
            return x;
        };
        due("undo behind four undos", allUndone, SnapStacks::undo, Due.IMPOSSIBLE);
        due("undo behind texts alone", () -> Scenes.withText("1ab"), SnapStacks::undo, Due.IMPOSSIBLE);
    }

    /** "LIMIT_REACHED if it has 60 characters." */
    private static void typeIntoFullText() {
        due("character 61", Scenes::full, x -> x.type('1'), Due.LIMIT);
        due("character 61, the least", Scenes::full, x -> x.type(32), Due.LIMIT);
        due("character 61, the greatest", Scenes::full, x -> x.type(126), Due.LIMIT);
        due("character 61, below the least", Scenes::full, x -> x.type(31), Due.INVALID);
        due("character 61, above the greatest", Scenes::full, x -> x.type(127), Due.INVALID);
    }

    /** "NOT_FOUND if the text has no fault." */
    private static void faultThatIsNotThere() {
        for (String text : new String[] {"", "1ab", Scenes.EIGHT_PARTS}) {
            Supplier<SnapStacks> made = () -> Scenes.withText(text);
            due("no place in '" + text + "'", made, x -> x.fault(0), Due.NONE);
            due("no reason in '" + text + "'", made, x -> x.fault(1), Due.NONE);
            due("what 2 in '" + text + "'", made, x -> x.fault(2), Due.INVALID);
            due("what -1 in '" + text + "'", made, x -> x.fault(-1), Due.INVALID);
        }
    }

    /** "NOT_POSSIBLE if the text has a fault." */
    private static void readOfFaultyText() {
        for (int k = 0; k < 3; k++) {
            int strip = k;
            due("read(" + k + ") of a text that ends too early", Scenes::faulty, x -> x.read(strip), Due.IMPOSSIBLE);
            due("read(" + k + ") of a ninth part", Scenes::full, x -> x.read(strip), Due.IMPOSSIBLE);
        }
        due("strip 3 and a text with a fault", Scenes::faulty, x -> x.read(3), Due.INVALID);
        due("strip -1 and a text with a fault", Scenes::full, x -> x.read(-1), Due.INVALID);
    }

    /** "A call that returns an error changes nothing": it does not drop the oldest state, either. */
    private static void refusedChangesKeepTheHistory() {
        SnapStacks x = new SnapStacks();
        for (int warmth = 1; warmth <= 4; warmth++) {
            x.outside(warmth);
        }
        Due.typeAll(x, "?");
        int[] got = {x.metal(6, 0), x.part(0, 0, 0, 0), x.cut(0, 1), x.bounds(0, 1, 1, 0), x.contact(0, 2),
            x.heat(0, 0, 0), x.outside(1501), x.warm(0, -501), x.opening(3, 1), x.set(1, 0), x.tick(0), x.read(0)};
        for (int i = 0; i < got.length; i++) {
            Due.is("refused change " + i, got[i], i == 2 || i == 11 ? Due.IMPOSSIBLE : Due.INVALID);
        }
        for (int left = 3; left >= 0; left--) {
            Due.is("undo", x.undo(), left);
            Due.is("the outside", x.count(2), left == 0 ? 100 : left);
        }
    }
}
