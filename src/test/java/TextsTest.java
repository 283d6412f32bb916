/** Promises 22 to 25: type, clearText, fault, read. */
public final class TextsTest {
    private static final int LEAST = Integer.MIN_VALUE;
    private static final int MOST = Integer.MAX_VALUE;
    private static final String EIGHT = "1ab,2bc,3cd,4de,5ef,6fa,7aa,8bb";

    public static void main(String[] args) {
        type();
        clearText();
        textsWithoutFault();
        textsWithFault();
        faultsAtEachPlace();
        faultArguments();
        read();
        readFails();
        Due.end();
    }

    private static void type() {
        SnapStacks x = new SnapStacks();
        Due.is("type(32)", x.type(32), 1);
        Due.is("type(126)", x.type(126), 2);
        String before = Due.stateOf(x);
        for (int w : new int[] {31, 127, 0, -1, 65536 + 49, LEAST, MOST}) {
            Due.error(x, "type(" + w + ")", x.type(w), Due.INVALID, before, 0);
        }
        Due.is("the length", x.count(4), 2);
        for (int i = 3; i <= 60; i++) {
            Due.is("character " + i, x.type('a'), i);
        }
        Due.error(x, "character 61", x.type('a'), Due.LIMIT, before, 0);
        Due.error(x, "character 61, out of range", x.type(127), Due.INVALID, before, 0);
        Due.is("the length", x.count(4), 60);
    }

    private static void clearText() {
        SnapStacks x = new SnapStacks();
        Due.is("an empty text", x.clearText(), 0);
        Due.typeAll(x, "xyz");
        Due.is("three characters", x.clearText(), 3);
        Due.is("none", x.clearText(), 0);
        Due.is("count(4)", x.count(4), 0);
        for (int i = 0; i < 60; i++) {
            x.type('a');
        }
        Due.is("all characters", x.clearText(), 60);
        Due.is("there is place again", x.type('1'), 1);
        Due.is("it ends too early", x.fault(0), 1);
    }

    private static void faultIs(String text, int place, int reason) {
        SnapStacks x = new SnapStacks();
        Due.typeAll(x, text);
        Due.is("place in '" + text + "'", x.fault(0), place);
        Due.is("reason in '" + text + "'", x.fault(1), reason);
    }

    private static void textsWithoutFault() {
        for (String text : new String[] {"", "1aa", "9ff", "1ab,9fe", EIGHT, EIGHT.substring(0, 27)}) {
            faultIs(text, Due.NONE, Due.NONE);
        }
    }

    private static void textsWithFault() {
        faultIs("0ab", 0, 1);
        faultIs("aab", 0, 1);
        faultIs(",1ab", 0, 1);
        faultIs(" ", 0, 1);
        faultIs("1", 1, 1);
        faultIs("1a", 2, 1);
        faultIs("1ab,", 4, 1);
        faultIs("1ab,2", 5, 1);
        faultIs("1Ab", 1, 1);
        faultIs("1ag", 2, 1);
        faultIs("1a`", 2, 1);
        faultIs("1ab:", 3, 1);
        faultIs("1abc", 3, 1);
        faultIs("1ab 2ab", 3, 1);
        faultIs("12a", 1, 1);
        faultIs("1ab,:ab", 4, 1);
        faultIs("1ab,/ab", 4, 1);
        faultIs("xyz" + EIGHT, 0, 1);
        faultIs(EIGHT + ",", 32, 1);
        faultIs(EIGHT + ",1", 32, 2);
        faultIs(EIGHT + ",x", 32, 2);
        faultIs(EIGHT + ",,", 32, 2);
        faultIs(EIGHT + ",9ab,1ab,1", 32, 2);
        faultIs(EIGHT + "1", 31, 1);
        faultIs(EIGHT + "x1ab", 31, 1);
        faultIs(EIGHT.substring(0, 30), 30, 1);
        faultIs("1ab,2bc,3cd,4de,5ef,6fg,7aa,8bb,1ab", 22, 1);
    }

    private static void faultsAtEachPlace() {
        for (int place = 0; place < EIGHT.length(); place++) {
            for (char c = 32; c <= 126; c++) {
                boolean fits = place % 4 == 0 ? c >= '1' && c <= '9'
                        : place % 4 == 3 ? c == ',' : c >= 'a' && c <= 'f';
                String text = EIGHT.substring(0, place) + c + EIGHT.substring(place + 1);
                faultIs(text, fits ? Due.NONE : place, fits ? Due.NONE : 1);
            }
        }
    }

    private static void faultArguments() {
        SnapStacks x = new SnapStacks();
        String before = Due.stateOf(x);
        for (int w : new int[] {-1, 2, LEAST, MOST}) {
            Due.error(x, "fault(" + w + ")", x.fault(w), Due.INVALID, before, 0);
        }
        x.type('x');
        for (int w : new int[] {-1, 2, LEAST, MOST}) {
            Due.error(x, "fault(" + w + ") with a fault", x.fault(w), Due.INVALID, before, 0);
        }
    }

    private static void read() {
        SnapStacks x = new SnapStacks();
        x.part(1, 9, 5, 5);
        x.part(1, 9, 4, 4);
        x.bounds(1, -7, 0, 2);
        x.contact(1, 1);
        x.tick(2);
        Due.typeAll(x, "3fa");
        Due.is("read(1)", x.read(1), 1);
        Due.is("the text stays", x.count(4), 3);
        Due.is("one part", x.stripOf(1, 0), 1);
        Due.is("its length", x.partOf(1, 0, 0), 3);
        Due.is("its upper metal", x.partOf(1, 0, 1), 5);
        Due.is("its lower metal", x.partOf(1, 0, 2), 0);
        int[] stays = {-7, 0, 2, 0, 2, 0, 1, 0};
        for (int i = 0; i < stays.length; i++) {
            Due.is("stripOf(1, " + (i + 4) + ") stays", x.stripOf(1, i + 4), stays[i]);
        }
        Due.is("another strip", x.stripOf(0, 0), 0);
        Due.is("it is a change", x.undo(), 3);
        Due.is("two parts again", x.stripOf(1, 0), 2);
        x.clearText();
        Due.typeAll(x, EIGHT);
        Due.is("eight parts", x.read(2), 8);
        for (int i = 0; i < 8; i++) {
            for (int what = 0; what < 3; what++) {
                int due = EIGHT.charAt(4 * i + what) - (what == 0 ? '0' : 'a');
                Due.is("partOf(2, " + i + ", " + what + ")", x.partOf(2, i, what), due);
            }
        }
        x.clearText();
        Due.is("the empty text", x.read(2), 0);
        Due.is("a strip without parts", x.stripOf(2, 1), 0);
    }

    private static void readFails() {
        SnapStacks x = new SnapStacks();
        x.part(0, 1, 2, 3);
        Due.typeAll(x, "1ab,");
        String before = Due.stateOf(x);
        Due.error(x, "read(0)", x.read(0), Due.IMPOSSIBLE, before, 1);
        for (int w : new int[] {-1, 3, LEAST, MOST}) {
            Due.error(x, "read(" + w + ")", x.read(w), Due.INVALID, before, 1);
        }
        x.clearText();
        Due.typeAll(x, EIGHT + ",1ab");
        Due.error(x, "read(0) of nine parts", x.read(0), Due.IMPOSSIBLE, before, 1);
        Due.is("the text stays", x.count(4), 35);
    }
}
