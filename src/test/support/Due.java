/** Compares answers with those that are due, and ends a test with the exit code that tells of it. */
final class Due {
    static final int INVALID = SnapStacks.INVALID_ARGUMENT;
    static final int IMPOSSIBLE = SnapStacks.NOT_POSSIBLE;
    static final int LIMIT = SnapStacks.LIMIT_REACHED;
    static final int NONE = SnapStacks.NOT_FOUND;

    private static int asked = 0;
    private static int wrong = 0;

    private Due() {
    }

    static void is(String what, long got, long want) {
        asked++;
        if (got != want) {
            wrong++;
            System.out.println(what + " answered " + got + ", due is " + want);
        }
    }

    static void holds(String what, boolean does) {
        is(what, does ? 1 : 0, 1);
    }

    /** Ends the test: with 1 if an answer was wrong, or if nothing was asked. */
    static void end() {
        System.out.println(asked + " answers, " + wrong + " of them not as due");
        System.exit(wrong == 0 && asked > 0 ? 0 : 1);
    }

    static void typeAll(SnapStacks x, String text) {
        for (int i = 0; i < text.length(); i++) {
            x.type(text.charAt(i));
        }
    }

    /** Everything that the object tells of its state but the text, as one text. */
    static String stateOf(SnapStacks x) {
        StringBuilder all = new StringBuilder();
        for (int k = 0; k < 3; k++) {
            for (int what = 0; what <= 11; what++) {
                all.append(x.stripOf(k, what)).append(' ');
            }
            for (int index = 0; index < 8; index++) {
                for (int what = 0; what <= 3; what++) {
                    all.append(x.partOf(k, index, what)).append(' ');
                }
            }
            for (int what = 0; what <= 6; what++) {
                all.append(x.roomOf(k, what)).append(' ');
            }
        }
        for (int what : new int[] {0, 1, 2, 5, 6, 10, 11, 12, 13, 14, 15}) {
            all.append(x.count(what)).append(' ');
        }
        return all.toString();
    }

    /** Calls that must be errors: each answers as is due and changes neither the state nor the history. */
    static void error(SnapStacks x, String call, int got, int want, String stateBefore, int historyBefore) {
        is(call, got, want);
        holds(call + " changes nothing", stateOf(x).equals(stateBefore));
        is("the history behind " + call, x.count(3), historyBefore);
    }
}
