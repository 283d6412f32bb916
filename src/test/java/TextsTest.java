/** Promises 22 to 25: type, clearText, fault, read. Ranges and refusals have tests of their own. */
public final class TextsTest {
    private static final String EIGHT = Scenes.EIGHT_PARTS;

    public static void main(String[] args) {
        type();
        clearText();
        textsWithoutFault();
        charactersThatCannotStand();
        textsThatEndTooEarly();
        ninthPart();
        firstFaultFromTheLeft();
        faultsAtEachPlace();
        fullTexts();
        read();
        readOfEachNumberOfParts();
        readOfAllParts();
        Due.end();
    }

    private static void type() {
        SnapStacks x = new SnapStacks();
        Due.is("type(32)", x.type(32), 1);
        Due.is("type(126)", x.type(126), 2);
        Due.is("the length", x.count(4), 2);
        for (int i = 3; i <= 60; i++) {
            Due.is("character " + i, x.type('a'), i);
        }
        Due.is("character 61", x.type('a'), Due.LIMIT);
        Due.is("the length", x.count(4), 60);
        for (int c = 32; c <= 126; c++) {
            SnapStacks y = new SnapStacks();
            Due.is("type(" + c + ")", y.type(c), 1);
            Due.is("the fault of " + c, y.fault(0), c >= '1' && c <= '9' ? 1 : 0);
        }
    }

    private static void clearText() {
        SnapStacks x = new SnapStacks();
        Due.is("an empty text", x.clearText(), 0);
        Due.typeAll(x, "xyz");
        Due.is("three characters", x.clearText(), 3);
        Due.is("none", x.clearText(), 0);
        Due.is("count(4)", x.count(4), 0);
        Due.is("no fault is left", x.fault(0), Due.NONE);
        for (int i = 0; i < 60; i++) {
            x.type('a');
        }
        Due.is("all characters", x.clearText(), 60);
        Due.is("there is place again", x.type('1'), 1);
        Due.is("it ends too early", x.fault(0), 1);
        Due.is("one character", x.clearText(), 1);
        Due.is("nothing was recorded", x.count(3), 0);
    }

    private static void faultIs(String text, int place, int reason) {
        SnapStacks x = Scenes.withText(text);
        Due.is("place in '" + text + "'", x.fault(0), place);
        Due.is("reason in '" + text + "'", x.fault(1), reason);
        Due.is("read of '" + text + "'", x.read(2), place == Due.NONE ? (text.length() + 1) / 4 : Due.IMPOSSIBLE);
    }

    /** "At most 8 parts. The empty text is a strip without parts." */
    private static void textsWithoutFault() {
        for (String text : new String[] {"", "1aa", "9ff", "1ab,9fe", EIGHT, EIGHT.substring(0, 27)}) {
            faultIs(text, Due.NONE, Due.NONE);
        }
    }

    /** "A digit 1 to 9 (the length) and two letters a to f": those, and the characters beside them. */
    private static void charactersThatCannotStand() {
        faultIs("0ab", 0, 1);
        faultIs(":ab", 0, 1);
        faultIs("aab", 0, 1);
        faultIs(",1ab", 0, 1);
        faultIs(" ", 0, 1);
        faultIs(" 1ab", 0, 1);
        faultIs("~", 0, 1);
        faultIs("1Ab", 1, 1);
        faultIs("1`b", 1, 1);
        faultIs("1gb", 1, 1);
        faultIs("12a", 1, 1);
        faultIs("1ag", 2, 1);
        faultIs("1a`", 2, 1);
        faultIs("1aF", 2, 1);
        faultIs("1ab:", 3, 1);
        faultIs("1ab+", 3, 1);
        faultIs("1ab-", 3, 1);
        faultIs("1abc", 3, 1);
        faultIs("1ab 2ab", 3, 1);
        faultIs("1ab ", 3, 1);
        faultIs("1ab,:ab", 4, 1);
        faultIs("1ab,0ab", 4, 1);
        faultIs("1ab,/ab", 4, 1);
        faultIs("1ab,,2ab", 4, 1);
        faultIs("1ab, 2ab", 4, 1);
    }

    /** "The length of the text if it ends too early", for each length at which it can. */
    private static void textsThatEndTooEarly() {
        for (int length = 0; length <= EIGHT.length(); length++) {
            boolean isWhole = length == 0 || length % 4 == 3;
            faultIs(EIGHT.substring(0, length), isWhole ? Due.NONE : length, isWhole ? Due.NONE : 1);
        }
    }

    /** "The first character of the ninth part ..., whatever it is (without one, the text ends too early: 1)." */
    private static void ninthPart() {
        faultIs(EIGHT + ",", 32, 1);
        for (char c = 32; c <= 126; c++) {
            faultIs(EIGHT + "," + c, 32, 2);
        }
        faultIs(EIGHT + ",,", 32, 2);
        faultIs(EIGHT + ",9ab", 32, 2);
        faultIs(EIGHT + ",9ab,1ab,1", 32, 2);
        faultIs(EIGHT + ",??", 32, 2);
    }

    /** "The first one from the left". */
    private static void firstFaultFromTheLeft() {
        faultIs("xyz" + EIGHT, 0, 1);
        faultIs("1xy", 1, 1);
        faultIs("1a?,?", 2, 1);
        faultIs(EIGHT + "1", 31, 1);
        faultIs(EIGHT + "x1ab", 31, 1);
        faultIs(EIGHT + "1ab,1ab,", 31, 1);
        faultIs("1ab,2bc,3cd,4de,5ef,6fg,7aa,8bb,1ab", 22, 1);
        faultIs(EIGHT.substring(0, 30) + "?,1ab", 30, 1);
        faultIs("?" + EIGHT.substring(1) + ",1ab", 0, 1);
        faultIs("1ab2", 3, 1);
        faultIs("1a?,", 2, 1);
    }

    private static void faultsAtEachPlace() {
        for (int place = 0; place < EIGHT.length(); place++) {
            for (char c = 32; c <= 126; c++) {
                boolean fits = place % 4 == 0 ? c >= '1' && c <= '9'
                        : place % 4 == 3 ? c == ',' : c >= 'a' && c <= 'f';
                String text = EIGHT.substring(0, place) + c + EIGHT.substring(place + 1);
                faultIs(text, fits ? Due.NONE : place, fits ? Due.NONE : 1);
            }
        }
    }

    /** "A text of at most 60 characters". */
    private static void fullTexts() {
        faultIs("1ab,".repeat(15), 32, 2);
        faultIs("1ab,".repeat(14) + "1ab?", 32, 2);
        faultIs("?".repeat(60), 0, 1);
        faultIs("1ab,".repeat(7) + "1ab" + "?".repeat(29), 31, 1);
        SnapStacks x = Scenes.withText("1ab" + " ".repeat(57));
        Due.is("no place for a comma", x.type(','), Due.LIMIT);
        Due.is("the fault stays", x.fault(0), 3);
    }

    /** "Makes the parts of a strip those of the text, which stays; all else of the strip stays, too." */
    private static void read() {
        SnapStacks x = new SnapStacks();
        x.part(1, 9, 5, 5);
        x.part(1, 9, 4, 4);
        x.bounds(1, -7, 0, 2);
        x.contact(1, 1);
        x.tick(2);
        Due.typeAll(x, "3fa");
        Due.is("read(1)", x.read(1), 1);
        Due.is("the text stays", x.count(4), 3);
        int[] due = {1, 3, 75, 75 * -9, -7, 0, 2, 0, 2, 0, 1, 0};
        for (int what = 0; what < due.length; what++) {
            Due.is("stripOf(1, " + what + ")", x.stripOf(1, what), due[what]);
        }
        Due.is("its upper metal", x.partOf(1, 0, 1), 5);
        Due.is("its lower metal", x.partOf(1, 0, 2), 0);
        Due.is("no second part", x.partOf(1, 1, 0), Due.NONE);
        Due.is("another strip", x.stripOf(0, 0), 0);
        Due.is("it is read once more", x.read(2), 1);
        Due.is("it is a change", x.undo(), 3);
        Due.is("two parts again", x.undo() + x.stripOf(1, 0), 2 + 2);
    }

    private static void readOfEachNumberOfParts() {
        for (int parts = 0; parts <= 8; parts++) {
            SnapStacks x = Scenes.full();
            x.clearText();
            Due.typeAll(x, EIGHT.substring(0, Math.max(0, 4 * parts - 1)));
            Due.is(parts + " parts are read", x.read(1), parts);
            Due.is(parts + " parts are there", x.stripOf(1, 0), parts);
            Due.is("their length", x.stripOf(1, 1), parts * (parts + 1) / 2);
            for (int i = 0; i < 8; i++) {
                for (int what = 0; what < 3; what++) {
                    int due = EIGHT.charAt(4 * i + what) - (what == 0 ? '0' : 'a');
                    Due.is("partOf(1, " + i + ", " + what + ")", x.partOf(1, i, what), i < parts ? due : Due.NONE);
                }
            }
            Due.is("another strip stays", x.stripOf(2, 1), 36);
            Due.is("a part behind them", x.part(1, 9, 5, 5), parts < 8 ? parts + 1 : Due.LIMIT);
        }
    }

    /** Each part that a text can tell. */
    private static void readOfAllParts() {
        for (int part = 0; part < 324; part++) {
            int[] due = {1 + part / 36, part / 6 % 6, part % 6};
            SnapStacks x = new SnapStacks();
            x.type('0' + due[0]);
            x.type('a' + due[1]);
            x.type('a' + due[2]);
            Due.is("read of part " + part, x.read(0), 1);
            for (int what = 0; what < 3; what++) {
                Due.is("part " + part + ", " + what, x.partOf(0, 0, what), due[what]);
            }
        }
    }
}
