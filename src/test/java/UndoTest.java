import java.util.ArrayDeque;
import java.util.Deque;
import java.util.function.ToIntFunction;

/** Promise 21, and "Changes and errors" of the terms: undo, and the history of at most 4 states. */
public final class UndoTest {
    private interface Change extends ToIntFunction<SnapStacks> {
    }

    private static final Change[] CHANGES = {x -> x.metal(3, 29), x -> x.part(0, 9, 0, 5), x -> x.cut(0, 2),
        x -> x.bounds(0, -5, 5, 5), x -> x.contact(0, 1), x -> x.heat(0, 98, 97), x -> x.outside(1234),
        x -> x.warm(2, 321), x -> x.opening(2, 1), x -> x.set(0, 98), x -> x.set(1, 998), x -> x.tick(23),
        x -> x.read(0)};

    public static void main(String[] args) {
        fifthStateDropsTheOldest();
        emptyHistory();
        historyOfAllOffsets();
        textIsNotInIt();
        questionsAreNoChanges();
        changeToTheSameIsOne();
        undoOfEachChange();
        undoOfEverything();
        Due.end();
    }

    /** "If there are 5 states then, the oldest one is dropped." */
    private static void fifthStateDropsTheOldest() {
        for (int changes = 0; changes <= 9; changes++) {
            SnapStacks x = new SnapStacks();
            for (int i = 1; i <= changes; i++) {
                x.outside(i);
                Due.is("states behind change " + i, x.count(3), Math.min(i, 4));
            }
            int undos = Math.min(changes, 4);
            for (int i = 1; i <= undos; i++) {
                Due.is("undo " + i, x.undo(), undos - i);
                Due.is("the outside behind it", x.count(2), changes == i ? 100 : changes - i);
            }
            Due.is("one undo too many", x.undo(), Due.IMPOSSIBLE);
            Due.is("it changes nothing", x.count(2), changes == undos ? 100 : changes - undos);
        }
    }

    private static void emptyHistory() {
        SnapStacks x = new SnapStacks();
        Due.is("undo of nothing", x.undo(), Due.IMPOSSIBLE);
        x.outside(1);
        Due.is("undo of one change", x.undo(), 0);
        Due.is("undo of nothing again", x.undo(), Due.IMPOSSIBLE);
        Due.is("states", x.count(3), 0);
        x.outside(2);
        Due.is("a state again", x.count(3), 1);
        Due.is("undo of it", x.undo(), 0);
        Due.is("the outside", x.count(2), 100);
    }

    /** Changes and undos in turns, against a row of the states that there should be. */
    private static void historyOfAllOffsets() {
        SnapStacks x = new SnapStacks();
        Deque<Integer> states = new ArrayDeque<>();
        int outside = 100;
        for (int step = 0; step < 150; step++) {
            if (step % 7 * (step % 11) % 5 > 1) {
                if (states.isEmpty()) {
                    Due.is("step " + step + ": undo of nothing", x.undo(), Due.IMPOSSIBLE);
                } else {
                    outside = states.removeLast();
                    Due.is("step " + step + ": undo", x.undo(), states.size());
                }
            } else {
                states.addLast(outside);
                outside = step;
                x.outside(outside);
                if (states.size() == 5) {
                    states.removeFirst();
                }
            }
            Due.is("step " + step + ": the outside", x.count(2), outside);
            Due.is("step " + step + ": states", x.count(3), states.size());
        }
    }

    /** "Each change records everything before it but the text." */
    private static void textIsNotInIt() {
        SnapStacks x = new SnapStacks();
        x.type('1');
        x.outside(9);
        x.type('a');
        x.type('b');
        Due.is("undo", x.undo(), 0);
        Due.is("the text stays", x.count(4), 3);
        Due.is("and can be read", x.read(0), 1);
        x.clearText();
        Due.is("undo of the read", x.undo(), 0);
        Due.is("the text stays empty", x.count(4), 0);
        Due.is("no part", x.stripOf(0, 0), 0);
        x.type('x');
        Due.is("type is no change", x.undo(), Due.IMPOSSIBLE);
        x.clearText();
        Due.is("clearText is no change", x.undo(), Due.IMPOSSIBLE);
    }

    private static void questionsAreNoChanges() {
        SnapStacks x = new SnapStacks();
        Due.stateOf(x);
        x.bend(0, 300);
        x.tripsAt(0, 0);
        x.stack(5, 0, 0);
        x.undo();
        Due.is("nothing to undo", x.count(3), 0);
        Due.is("undo", x.undo(), Due.IMPOSSIBLE);
    }

    private static void changeToTheSameIsOne() {
        SnapStacks x = new SnapStacks();
        x.warm(0, x.roomOf(0, 0));
        Due.is("a state", x.count(3), 1);
        x.read(0);
        Due.is("read of the empty text", x.count(3), 2);
        x.opening(1, 0);
        Due.is("closing what is closed", x.count(3), 3);
        Due.is("undo", x.undo(), 2);
    }

    private static void undoOfEachChange() {
        for (int change = 0; change < CHANGES.length; change++) {
            SnapStacks x = busyWithText();
            String before = Due.stateOf(x);
            int stack = x.stack(75, 0, 0);
            Due.holds("change " + change + " is taken", CHANGES[change].applyAsInt(x) > SnapStacks.INVALID_ARGUMENT);
            x.loop(1);
            x.stack(75, 0, 0);
            Due.is("undo of change " + change, x.undo(), 3);
            Due.same("undo of change " + change + " restores", Due.stateOf(x), before);
            Due.is("the stack behind it", x.stack(75, 0, 0), stack);
            SnapStacks y = busyWithText();
            CHANGES[change].applyAsInt(y);
            Due.holds("change " + change + " changes", !Due.stateOf(y).equals(before));
        }
    }

    private static SnapStacks busyWithText() {
        SnapStacks x = Scenes.busy();
        x.tick(40);
        x.clearText();
        Due.typeAll(x, "9ff,8fa,1ab");
        return x;
    }

    /** Four changes, of all kinds in turn, are undone one by one. */
    private static void undoOfEverything() {
        for (int first = 0; first < CHANGES.length; first++) {
            for (int undos = 1; undos <= 4; undos++) {
                SnapStacks x = busyWithText();
                SnapStacks y = busyWithText();
                for (int i = 0; i < 4; i++) {
                    CHANGES[(first + i) % CHANGES.length].applyAsInt(x);
                    if (i < 4 - undos) {
                        CHANGES[(first + i) % CHANGES.length].applyAsInt(y);
                    }
                }
                int stood = x.count(3);
                for (int i = 1; i <= undos; i++) {
                    Due.is("undo " + i, x.undo(), stood - i);
                }
                Due.same("changes from " + first + ", " + undos + " undos", Due.stateOf(x), Due.stateOf(y));
            }
        }
    }
}
