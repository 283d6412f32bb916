import java.util.function.Supplier;
import java.util.function.ToIntFunction;

/** Compares answers with those that are due, and ends a test with the exit code that tells of it. */
final class Due {
    static final int INVALID = SnapStacks.INVALID_ARGUMENT;
    static final int IMPOSSIBLE = SnapStacks.NOT_POSSIBLE;
    static final int LIMIT = SnapStacks.LIMIT_REACHED;
    static final int NONE = SnapStacks.NOT_FOUND;
    /** What later calls of one object answer is free, so no test makes more. */
    static final int MOST_CALLS = 512;
    static final int MOST_HISTORY = 4;

    private static int asked = 0;
    private static int wrong = 0;

    private Due() {
    }

    static void is(String what, long got, long want) {
        asked++;
        if (got != want) {
            wrong++;
            System.out.println(what + " answered " + got + ", due is " + want);
        }
    }

    static void holds(String what, boolean does) {
        is(what, does ? 1 : 0, 1);
    }

    static void same(String what, String got, String want) {
        asked++;
        if (!got.equals(want)) {
            wrong++;
            System.out.println(what + ":\n  is  " + got + "\n  due " + want);
        }
    }

    /** Ends the test: with 1 if an answer was wrong, or if nothing was asked. */
    static void end() {
        System.out.println(asked + " answers, " + wrong + " of them not as due");
        System.exit(wrong == 0 && asked > 0 ? 0 : 1);
    }

    static void typeAll(SnapStacks x, String text) {
        for (int i = 0; i < text.length(); i++) {
            x.type(text.charAt(i));
        }
    }

    /** Everything that the object tells but the states in its history, as one text; by 170 calls. */
    static String stateOf(SnapStacks x) {
        StringBuilder all = new StringBuilder();
        for (int k = 0; k < 3; k++) {
            all.append("\n  strip ").append(k).append(':');
            for (int what = 0; what <= 11; what++) {
                all.append(' ').append(x.stripOf(k, what));
            }
            for (int index = 0; index < 8; index++) {
                for (int what = 0; what <= 3; what++) {
                    all.append(' ').append(x.partOf(k, index, what));
                }
            }
            all.append("\n  room ").append(k).append(':');
            for (int what = 0; what <= 6; what++) {
                all.append(' ').append(x.roomOf(k, what));
            }
        }
        all.append("\n  counts:");
        for (int what : new int[] {0, 1, 2, 4, 5, 6, 10, 11, 12, 13, 14, 15}) {
            all.append(' ').append(x.count(what));
        }
        all.append("\n  fault: ").append(x.fault(0)).append(' ').append(x.fault(1));
        all.append("\n  loop: ").append(x.loop(0)).append(' ').append(x.loop(1)).append(' ').append(x.loop(2));
        return all.toString();
    }

    /**
     * Holds a called object against its twin, which was not called so: now, and behind each number
     * of undos, for each of which both are made anew.
     */
    static void sameAsTwin(String name, Supplier<SnapStacks> made, ToIntFunction<SnapStacks> calling) {
        for (int undos = 0; undos <= MOST_HISTORY; undos++) {
            SnapStacks x = made.get();
            SnapStacks twin = made.get();
            calling.applyAsInt(x);
            for (int i = 0; i < undos; i++) {
                is(name + ", and then an undo", x.undo(), twin.undo());
            }
            is(name + ", the history behind " + undos + " undos", x.count(3), twin.count(3));
            same(name + ", the state behind " + undos + " undos", stateOf(x), stateOf(twin));
        }
    }

    /** What the text says, as one text; the parts of strip 0 are then those of the text. */
    static String textOf(SnapStacks x) {
        StringBuilder all = new StringBuilder();
        all.append(x.count(4)).append(": ").append(x.read(0)).append(" parts:");
        for (int index = 0; index < 8; index++) {
            for (int what = 0; what <= 2; what++) {
                all.append(' ').append(x.partOf(0, index, what));
            }
        }
        return all.toString();
    }

    /** A call that must be refused: it answers as is due, and changes neither the state, the history nor the text. */
    static void refused(String name, Supplier<SnapStacks> made, ToIntFunction<SnapStacks> calling, int want) {
        is(name, calling.applyAsInt(made.get()), want);
        changesNothing(name, made, calling);
    }

    static void changesNothing(String name, Supplier<SnapStacks> made, ToIntFunction<SnapStacks> calling) {
        sameAsTwin(name, made, calling);
        SnapStacks x = made.get();
        calling.applyAsInt(x);
        same(name + ", the text", textOf(x), textOf(made.get()));
    }
}
