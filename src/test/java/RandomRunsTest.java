import java.util.Random;

/** Random runs of at most 512 calls, with arguments in and out of their ranges, against the slow model. */
public final class RandomRunsTest {
    private static final int RUNS = 300;
    /** What a call of stripOf and roomOf for all that they tell takes. */
    private static final int CALLS_OF_ALL = 57;
    private static final int[] ODD = {Integer.MIN_VALUE, Integer.MAX_VALUE, -1, -2, 1000000, -1000000};

    private static Random random;
    private static StringBuilder told;
    private static int calls;

    public static void main(String[] args) {
        for (int run = 0; run < RUNS; run++) {
            random = new Random(run);
            told = new StringBuilder("new");
            calls = 0;
            SnapStacks x = new SnapStacks();
            SlowModel m = new SlowModel();
            int style = run % 3;
            while (calls < Due.MOST_CALLS) {
                if (!callBoth(x, m, style)) {
                    System.out.println("run " + run + ": " + told);
                    Due.end();
                }
            }
        }
        Due.end();
    }

    private static int from(int least, int most) {
        switch (random.nextInt(60)) {
            case 0: return least - 1;
            case 1: return most + 1;
            case 2: return ODD[random.nextInt(ODD.length)];
            case 3: return least;
            case 4: return most;
            default: return least + random.nextInt(most - least + 1);
        }
    }

    private static boolean same(String call, int got, int want) {
        calls++;
        told.append(' ').append(call).append('=').append(got);
        Due.is(call, got, want);
        return got == want;
    }

    private static boolean callBoth(SnapStacks x, SlowModel m, int style) {
        int pick = random.nextInt(40);
        if (pick < 16) {
            return change(x, m, pick, style);
        }
        if (pick < 24) {
            return textCall(x, m, pick);
        }
        return ask(x, m, pick, style);
    }

    private static boolean change(SnapStacks x, SlowModel m, int pick, int style) {
        int a = from(0, 2);
        switch (pick) {
            case 0: {
                int k = from(0, 5);
                int n = from(0, 30);
                return same("metal(" + k + "," + n + ")", x.metal(k, n), m.metal(k, n));
            }
            case 1: case 2: case 3: {
                int l = from(1, 9);
                int u = from(0, 5);
                int w = from(0, 5);
                return same("part(" + a + "," + l + "," + u + "," + w + ")", x.part(a, l, u, w), m.part(a, l, u, w));
            }
            case 4: {
                int n = random.nextInt(3) == 0 ? from(1, 8) : 1;
                return same("cut(" + a + "," + n + ")", x.cut(a, n), m.cut(a, n));
            }
            case 5: case 6: return bounds(x, m, a, style);
            case 7: {
                int k = from(0, 1);
                return same("contact(" + a + "," + k + ")", x.contact(a, k), m.contact(a, k));
            }
            case 8: case 9: {
                int p = from(0, 99);
                int d = random.nextBoolean() ? from(1, 99) : from(1, 30);
                return same("heat(" + a + "," + p + "," + d + ")", x.heat(a, p, d), m.heat(a, p, d));
            }
            case 10: {
                int t = random.nextBoolean() ? from(-500, 1500) : from(0, 200);
                return same("outside(" + t + ")", x.outside(t), m.outside(t));
            }
            case 11: {
                int t = random.nextBoolean() ? from(-500, 1500) : from(100, 300);
                return same("warm(" + a + "," + t + ")", x.warm(a, t), m.warm(a, t));
            }
            case 12: {
                int is = from(0, 1);
                return same("opening(" + a + "," + is + ")", x.opening(a, is), m.opening(a, is));
            }
            case 13: {
                int what = from(0, 1);
                int v = what == 0 ? (random.nextInt(3) == 0 ? from(0, 99) : from(0, 4)) : from(1, 999);
                return same("set(" + what + "," + v + ")", x.set(what, v), m.set(what, v));
            }
            default: {
                int n = random.nextInt(3) == 0 ? from(1, 200) : from(1, 5);
                return same("tick(" + n + ")", x.tick(n), m.tick(n));
            }
        }
    }

    private static boolean bounds(SnapStacks x, SlowModel m, int a, int style) {
        int reach = style == 0 ? 90000 : style == 1 ? 6000 : 500;
        int low = random.nextInt(8) == 0 ? from(-90000, 89999) : from(-reach, reach - 1);
        int high = low + (random.nextInt(10) == 0 ? from(1, 90000) : from(1, reach));
        int late = from(0, 5);
        return same("bounds(" + a + "," + low + "," + high + "," + late + ")",
                x.bounds(a, low, high, late), m.bounds(a, low, high, late));
    }

    private static boolean textCall(SnapStacks x, SlowModel m, int pick) {
        if (pick == 16 && random.nextInt(3) == 0) {
            return same("clearText", x.clearText(), m.clearText());
        }
        if (pick == 17) {
            int what = from(0, 1);
            return same("fault(" + what + ")", x.fault(what), m.fault(what));
        }
        if (pick == 18) {
            int a = from(0, 2);
            return same("read(" + a + ")", x.read(a), m.read(a));
        }
        int at = m.count(4);
        int good = at % 4 == 3 ? ',' : at % 4 == 0 ? '1' + random.nextInt(9) : 'a' + random.nextInt(6);
        int c = random.nextInt(25) == 0 ? from(32, 126) : good;
        return same("type(" + c + ")", x.type(c), m.type(c));
    }

    private static boolean ask(SnapStacks x, SlowModel m, int pick, int style) {
        int a = from(0, 2);
        switch (pick) {
            case 24: case 25: {
                int what = from(0, 11);
                return same("stripOf(" + a + "," + what + ")", x.stripOf(a, what), m.stripOf(a, what));
            }
            case 26: {
                int i = from(0, 8);
                int what = from(0, 3);
                return same("partOf(" + a + "," + i + "," + what + ")", x.partOf(a, i, what), m.partOf(a, i, what));
            }
            case 27: case 28: {
                int what = from(0, 6);
                return same("roomOf(" + a + "," + what + ")", x.roomOf(a, what), m.roomOf(a, what));
            }
            case 29: case 30: {
                int what = from(0, 16);
                return same("count(" + what + ")", x.count(what), m.count(what));
            }
            case 31: {
                int t = from(-500, 1500);
                return same("bend(" + a + "," + t + ")", x.bend(a, t), m.bend(a, t));
            }
            case 32: case 33: {
                int b = from(0, 1);
                return same("tripsAt(" + a + "," + b + ")", x.tripsAt(a, b), m.tripsAt(a, b));
            }
            case 34: case 35: {
                int what = from(0, 2);
                return same("loop(" + what + ")", x.loop(what), m.loop(what));
            }
            case 36: case 37: {
                int b = style == 0 ? from(-900, 900) : from(-150, 150);
                int i = from(-1, 2);
                int what = i == -1 && random.nextInt(5) != 0 ? 0 : from(0, 2);
                return same("stack(" + b + "," + i + "," + what + ")", x.stack(b, i, what), m.stack(b, i, what));
            }
            case 38: return random.nextInt(3) != 0 || same("undo", x.undo(), m.undo());
            default: return calls + CALLS_OF_ALL > Due.MOST_CALLS || random.nextInt(2) == 0 || all(x, m);
        }
    }

    private static boolean all(SnapStacks x, SlowModel m) {
        boolean is = true;
        for (int k = 0; k < 3; k++) {
            for (int what = 0; what <= 11; what++) {
                is &= same("stripOf(" + k + "," + what + ")", x.stripOf(k, what), m.stripOf(k, what));
            }
            for (int what = 0; what <= 6; what++) {
                is &= same("roomOf(" + k + "," + what + ")", x.roomOf(k, what), m.roomOf(k, what));
            }
        }
        return is;
    }
}
