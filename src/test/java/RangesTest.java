import java.util.Arrays;
import java.util.LinkedHashSet;
import java.util.Set;
import java.util.function.Supplier;

/**
 * The ranges of all arguments: each call takes the least and the greatest value of each, refuses the next
 * one below and above (and some far off, which would be within if numbers wrapped around), and a refused
 * call changes nothing. Of what is taken, a change can be undone as a whole, and a question changes nothing.
 */
public final class RangesTest {
    private static final int LEAST = Integer.MIN_VALUE;
    private static final int MOST = Integer.MAX_VALUE;
    private static final Kind CHANGE = Kind.CHANGE;
    private static final Kind QUESTION = Kind.QUESTION;
    private static final Supplier<SnapStacks> BUSY = Scenes::busy;
    private static final Supplier<SnapStacks> FULL = Scenes::full;

    private enum Kind { CHANGE, QUESTION, TEXT }

    private interface Call {
        int on(SnapStacks x, int[] with);
    }

    /** A call with arguments that are taken, and the range of each of them. */
    private record Told(String name, Kind kind, Supplier<SnapStacks> made, int[] good, int[][] ranges, Call call) {
    }

    public static void main(String[] args) {
        metalsAndStrips();
        boundsOfStrips();
        rooms();
        settings();
        whatThereIs();
        whatWouldBe();
        stacks();
        texts();
        Due.end();
    }

    private static int[] range(int least, int most) {
        return new int[] {least, most};
    }

    private static int[][] ranges(int... leastAndMost) {
        int[][] all = new int[leastAndMost.length / 2][];
        for (int i = 0; i < all.length; i++) {
            all[i] = range(leastAndMost[2 * i], leastAndMost[2 * i + 1]);
        }
        return all;
    }

    private static int[] good(int... arguments) {
        return arguments;
    }

    private static void metalsAndStrips() {
        check(new Told("metal", CHANGE, BUSY, good(2, 9), ranges(0, 5, 0, 30), (x, a) -> x.metal(a[0], a[1])));
        check(new Told("part", CHANGE, BUSY, good(1, 4, 3, 2), ranges(0, 2, 1, 9, 0, 5, 0, 5),
                (x, a) -> x.part(a[0], a[1], a[2], a[3])));
        check(new Told("cut", CHANGE, FULL, good(1, 3), ranges(0, 2, 1, 8), (x, a) -> x.cut(a[0], a[1])));
        check(new Told("contact", CHANGE, BUSY, good(1, 0), ranges(0, 2, 0, 1), (x, a) -> x.contact(a[0], a[1])));
    }

    private static void boundsOfStrips() {
        Call bounds = (x, a) -> x.bounds(a[0], a[1], a[2], a[3]);
        check(new Told("bounds below the greatest", CHANGE, BUSY, good(1, 5, 90000, 2),
                ranges(0, 2, -90000, 89999, 6, 90000, 0, 5), bounds));
        check(new Told("bounds above the least", CHANGE, BUSY, good(1, -90000, 7, 2),
                ranges(0, 2, -90000, 6, -89999, 90000, 0, 5), bounds));
        check(new Told("bounds above the greatest low one", CHANGE, BUSY, good(1, 89999, 90000, 2),
                ranges(0, 2, -90000, 89999, 90000, 90000, 0, 5), bounds));
        check(new Told("bounds below the least high one", CHANGE, BUSY, good(1, -90000, -89999, 2),
                ranges(0, 2, -90000, -90000, -89999, 90000, 0, 5), bounds));
        check(new Told("bounds around 0", CHANGE, BUSY, good(1, 0, 1, 2),
                ranges(0, 2, -90000, 0, 1, 90000, 0, 5), bounds));
        refused(BUSY, "bounds: both wrap around", bounds, 1, MOST, LEAST, 2);
        refused(BUSY, "bounds: both are the greatest", bounds, 1, 90000, 90000, 2);
        refused(BUSY, "bounds: both above", bounds, 1, 90000, 90001, 2);
        refused(BUSY, "bounds: both below", bounds, 1, -90002, -90001, 2);
        refused(BUSY, "bounds: the wrong way round", bounds, 1, 10, -10, 2);
    }

    private static void rooms() {
        check(new Told("heat", CHANGE, BUSY, good(1, 50, 50), ranges(0, 2, 0, 99, 1, 99),
                (x, a) -> x.heat(a[0], a[1], a[2])));
        check(new Told("outside", CHANGE, BUSY, good(7), ranges(-500, 1500), (x, a) -> x.outside(a[0])));
        check(new Told("warm", CHANGE, BUSY, good(1, 7), ranges(0, 2, -500, 1500), (x, a) -> x.warm(a[0], a[1])));
        check(new Told("opening", CHANGE, BUSY, good(2, 1), ranges(0, 2, 0, 1), (x, a) -> x.opening(a[0], a[1])));
        check(new Told("tick", CHANGE, BUSY, good(7), ranges(1, 200), (x, a) -> x.tick(a[0])));
    }

    private static void settings() {
        Call set = (x, a) -> x.set(a[0], a[1]);
        check(new Told("set 0", CHANGE, BUSY, good(0, 5), ranges(0, 1, 0, 99), set));
        check(new Told("set 1", CHANGE, BUSY, good(1, 5), ranges(0, 1, 1, 999), set));
    }

    private static void whatThereIs() {
        check(new Told("stripOf", QUESTION, BUSY, good(1, 2), ranges(0, 2, 0, 11), (x, a) -> x.stripOf(a[0], a[1])));
        check(new Told("partOf", QUESTION, BUSY, good(0, 1, 2), ranges(0, 2, 0, MOST, 0, 3),
                (x, a) -> x.partOf(a[0], a[1], a[2])));
        check(new Told("roomOf", QUESTION, BUSY, good(1, 2), ranges(0, 2, 0, 6), (x, a) -> x.roomOf(a[0], a[1])));
        Call count = (x, a) -> x.count(a[0]);
        check(new Told("count", QUESTION, BUSY, good(2), ranges(0, 6), count));
        check(new Told("count of metals", QUESTION, BUSY, good(12), ranges(10, 15), count));
        refused(BUSY, "count(8)", count, 8);
        refused(BUSY, "count, 10 less wrapped around", count, LEAST + 9);
    }

    private static void whatWouldBe() {
        check(new Told("bend", QUESTION, BUSY, good(1, 7), ranges(0, 2, -500, 1500), (x, a) -> x.bend(a[0], a[1])));
        check(new Told("tripsAt", QUESTION, BUSY, good(1, 0), ranges(0, 2, 0, 1), (x, a) -> x.tripsAt(a[0], a[1])));
        check(new Told("loop", QUESTION, BUSY, good(1), ranges(0, 2), (x, a) -> x.loop(a[0])));
    }

    private static void stacks() {
        Call stack = (x, a) -> x.stack(a[0], a[1], a[2]);
        // With an index of -1 only 0 may be asked for, so that -1 is refused where 1 is.
        check(new Told("stack, a part", QUESTION, BUSY, good(75, 0, 1), ranges(-900, 900, 0, MOST, 0, 2), stack));
        check(new Told("stack, how many parts", QUESTION, BUSY, good(75, -1, 0), ranges(-900, 900, -1, MOST, 0, 0),
                stack));
    }

    private static void texts() {
        check(new Told("type", Kind.TEXT, BUSY, good('1'), ranges(32, 126), (x, a) -> x.type(a[0])));
        check(new Told("fault", QUESTION, BUSY, good(0), ranges(0, 1), (x, a) -> x.fault(a[0])));
        check(new Told("fault of a text with one", QUESTION, FULL, good(0), ranges(0, 1), (x, a) -> x.fault(a[0])));
        check(new Told("read", CHANGE, BUSY, good(1), ranges(0, 2), (x, a) -> x.read(a[0])));
    }

    private static void check(Told told) {
        for (int i = 0; i < told.good.length; i++) {
            int least = told.ranges[i][0];
            int most = told.ranges[i][1];
            for (int value : valuesWithin(least, most)) {
                taken(told, replaced(told.good, i, value));
            }
            for (int value : valuesOutside(least, most)) {
                refused(told.made, told.name, told.call, replaced(told.good, i, value));
            }
        }
        ends(told);
    }

    /** All arguments at their ends together: within, and outside. */
    private static void ends(Told told) {
        int[] below = new int[told.good.length];
        int[] above = new int[told.good.length];
        for (int i = 0; i < told.good.length; i++) {
            below[i] = told.ranges[i][0] - 1;
            above[i] = told.ranges[i][1] == MOST ? MOST : told.ranges[i][1] + 1;
        }
        refused(told.made, told.name, told.call, below);
        refused(told.made, told.name, told.call, above);
    }

    private static int[] replaced(int[] good, int index, int value) {
        int[] with = good.clone();
        with[index] = value;
        return with;
    }

    private static Set<Integer> valuesWithin(int least, int most) {
        Set<Integer> values = new LinkedHashSet<>();
        long wide = (long) most - least;
        for (long value = least; value <= most && wide <= 12; value++) {
            values.add((int) value);
        }
        for (long value : new long[] {least, least + 1L, -1, 0, 1, least + wide / 2, most - 1L, most}) {
            if (least <= value && value <= most) {
                values.add((int) value);
            }
        }
        return values;
    }

    private static Set<Integer> valuesOutside(int least, int most) {
        Set<Integer> values = new LinkedHashSet<>();
        long[] candidates = {least - 1L, most + 1L, LEAST, LEAST + 1L, LEAST + (long) most, MOST, MOST - 1L,
            least + 65536L, least - 65536L, least - (1L << 31), least + (1L << 31)};
        for (long value : candidates) {
            if (LEAST <= value && value <= MOST && (value < least || value > most)) {
                values.add((int) value);
            }
        }
        return values;
    }

    private static String told(String name, int[] with) {
        return name + " " + Arrays.toString(with);
    }

    private static void refused(Supplier<SnapStacks> made, String name, Call call, int... with) {
        Due.refused(told(name, with), made, x -> call.on(x, with), Due.INVALID);
    }

    private static void taken(Told told, int[] with) {
        String name = told(told.name, with);
        SnapStacks x = told.made.get();
        SnapStacks twin = told.made.get();
        Due.holds(name + " is taken", told.call.on(x, with) != Due.INVALID);
        switch (told.kind) {
            case QUESTION:
                Due.changesNothing(name, told.made, y -> told.call.on(y, with));
                break;
            case CHANGE:
                Due.is(name + " is a change", x.count(3), Due.MOST_HISTORY);
                Due.is(name + " can be undone", x.undo(), Due.MOST_HISTORY - 1);
                Due.same(name + " is undone as a whole", Due.stateOf(x), Due.stateOf(twin));
                break;
            default:
                Due.is(name + " is no change", x.count(3), twin.count(3));
                Due.is(name + " is restored by no undo", x.undo() + x.count(4), twin.undo() + twin.count(4) + 1);
        }
    }
}
