/** Makes objects in states that tests begin with; those of one scene are twins. */
final class Scenes {
    static final String EIGHT_PARTS = "1ab,2bc,3cd,4de,5ef,6fa,7aa,8bb";

    private Scenes() {
    }

    static SnapStacks fresh() {
        return new SnapStacks();
    }

    /** Nothing is as it was at first: a snapped strip, counted pulls, a full history, a text without a fault. */
    static SnapStacks busy() {
        SnapStacks x = new SnapStacks();
        x.metal(1, 7);
        x.part(0, 4, 5, 0);
        x.part(0, 2, 3, 1);
        x.part(1, 1, 2, 3);
        x.part(2, 9, 0, 4);
        x.bounds(0, 1500, 3600, 1);
        x.bounds(1, -10, 0, 5);
        x.bounds(2, -9, -1, 0);
        x.contact(1, 1);
        x.heat(0, 30, 20);
        x.heat(1, 12, 7);
        x.warm(2, 260);
        x.opening(1, 1);
        x.outside(150);
        x.set(0, 2);
        x.set(1, 70);
        x.tick(3);
        Due.typeAll(x, "3fa,1cb");
        return x;
    }

    /** Each strip has 8 parts, the history 4 states and the text 60 characters. */
    static SnapStacks full() {
        SnapStacks x = new SnapStacks();
        for (int k = 0; k < 3; k++) {
            for (int i = 0; i < 8; i++) {
                x.part(k, 1 + i, i % 6, (i + k + 1) % 6);
            }
        }
        for (int i = 0; i < 15; i++) {
            Due.typeAll(x, "1ab,");
        }
        return x;
    }

    /** As busy, with a text that ends too early. */
    static SnapStacks faulty() {
        SnapStacks x = busy();
        x.type(',');
        return x;
    }

    static SnapStacks withText(String text) {
        SnapStacks x = new SnapStacks();
        Due.typeAll(x, text);
        return x;
    }

    static SnapStacks withMetals(int... numbers) {
        SnapStacks x = new SnapStacks();
        for (int k = 0; k < numbers.length; k++) {
            x.metal(k, numbers[k]);
        }
        return x;
    }

    /** A strip of rate 10 in room 0, which keeps its warmth of 200 as the outside has it and the power is 0. */
    static SnapStacks still(int low, int high, int late) {
        SnapStacks x = new SnapStacks();
        x.part(0, 2, 1, 0);
        x.bounds(0, low, high, late);
        x.outside(200);
        return x;
    }

    /** Lets a tick go by in which room 0 has a warmth and keeps it. */
    static int tickAt(SnapStacks x, int warmth) {
        x.outside(warmth);
        x.warm(0, warmth);
        return x.tick(1);
    }
}
