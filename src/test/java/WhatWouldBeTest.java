/** Promises 17 and 18: bend, tripsAt. Ranges and refusals have tests of their own. */
public final class WhatWouldBeTest {
    public static void main(String[] args) {
        bend();
        tripsAtWithoutParts();
        tripsAtBackwards();
        tripsAtTheEndsOfWarmth();
        tripsAtBetweenTwoWarmths();
        tripsAtAgainstAllWarmths();
        tripsAtIsWhereATickPulls();
        Due.end();
    }

    private static void bend() {
        SnapStacks x = new SnapStacks();
        Due.is("no parts", x.bend(0, 1500), 0);
        x.part(0, 9, 5, 0);
        x.part(0, 3, 1, 2);
        Due.is("bend(0, 199)", x.bend(0, 199), -210);
        Due.is("bend(0, 200)", x.bend(0, 200), 0);
        Due.is("bend(0, 201)", x.bend(0, 201), 210);
        Due.is("bend(0, -500)", x.bend(0, -500), -700 * 210);
        Due.is("bend(0, 1500)", x.bend(0, 1500), 1300 * 210);
        Due.is("bend(1, 1500)", x.bend(1, 1500), 0);
    }

    /** A strip that doesn't bend is pulled at each warmth, or at none. */
    private static void tripsAtWithoutParts() {
        SnapStacks x = new SnapStacks();
        Due.is("high above 0", x.tripsAt(0, 0), Due.NONE);
        Due.is("low above 0", x.tripsAt(0, 1), 1500);
        x.bounds(0, 0, 1, 0);
        Due.is("high just above 0", x.tripsAt(0, 0), Due.NONE);
        Due.is("low at 0", x.tripsAt(0, 1), 1500);
        x.bounds(0, -1, 0, 0);
        Due.is("high at 0", x.tripsAt(0, 0), -500);
        Due.is("low just below 0", x.tripsAt(0, 1), Due.NONE);
        x.tick(1);
        Due.is("it is snapped now", x.stripOf(0, 7), 1);
        Due.is("high at 0, whether it is snapped or not", x.tripsAt(0, 0), -500);
        Due.is("low just below 0, whether it is snapped or not", x.tripsAt(0, 1), Due.NONE);
        x.part(0, 9, 3, 3);
        Due.is("a part of one metal is as none", x.tripsAt(0, 0), -500);
    }

    private static void tripsAtBackwards() {
        SnapStacks x = new SnapStacks();
        x.part(0, 2, 0, 1);
        x.bounds(0, 5, 1000, 0);
        Due.is("the least one is the least there is", x.tripsAt(0, 0), -500);
        Due.is("the greatest one is the greatest there is", x.tripsAt(0, 1), 1500);
        x.bounds(0, 6999, 7000, 0);
        Due.is("high at the bend of -500", x.tripsAt(0, 0), -500);
        x.bounds(0, 7000, 7001, 0);
        Due.is("high just above it", x.tripsAt(0, 0), Due.NONE);
        x.bounds(0, -13000, -12999, 0);
        Due.is("low at the bend of 1500", x.tripsAt(0, 1), 1500);
        x.bounds(0, -13001, -13000, 0);
        Due.is("low just below it", x.tripsAt(0, 1), Due.NONE);
    }

    /** "Within -500 to 1500": a strip of rate 10 bends from -7000 to 13000 there. */
    private static void tripsAtTheEndsOfWarmth() {
        int[][] lowHighUpBack = {
            {12999, 13000, 1500, 1499}, {13000, 13001, Due.NONE, 1500}, {13001, 13002, Due.NONE, 1500},
            {89999, 90000, Due.NONE, 1500}, {12989, 12990, 1499, 1498}, {12990, 12991, 1500, 1499},
            {-7000, -6999, -499, -500}, {-7001, -7000, -500, Due.NONE}, {-7002, -7001, -500, Due.NONE},
            {-90000, -89999, -500, Due.NONE}, {-6991, -6990, -499, -500}, {-6990, -6989, -498, -499},
            {-90000, 90000, Due.NONE, Due.NONE},
        };
        for (int[] row : lowHighUpBack) {
            SnapStacks x = Scenes.still(row[0], row[1], 3);
            Due.is("up to " + row[1], x.tripsAt(0, 0), row[2]);
            Due.is("back to " + row[0], x.tripsAt(0, 1), row[3]);
        }
    }

    /** Bounds that no warmth bends to exactly, on both sides of 0. */
    private static void tripsAtBetweenTwoWarmths() {
        int[][] lowHighUpBack = {
            {0, 1, 201, 200}, {9, 10, 201, 200}, {10, 11, 202, 201}, {19, 20, 202, 201}, {-1, 0, 200, 199},
            {-10, -9, 200, 199}, {-11, -10, 199, 198}, {-20, -19, 199, 198}, {-21, -20, 198, 197},
        };
        for (int[] row : lowHighUpBack) {
            SnapStacks x = Scenes.still(row[0], row[1], 0);
            Due.is("up to " + row[1], x.tripsAt(0, 0), row[2]);
            Due.is("back to " + row[0], x.tripsAt(0, 1), row[3]);
        }
    }

    private static void tripsAtAgainstAllWarmths() {
        int[][] strips = {{1, 1, 0}, {9, 5, 0}, {3, 2, 1}, {9, 0, 5}, {1, 0, 1}, {4, 3, 3}, {1, 2, 0}};
        for (int[] s : strips) {
            SnapStacks x = new SnapStacks();
            x.metal(1, 1);
            x.part(0, s[0], s[1], s[2]);
            int rate = x.stripOf(0, 2);
            int[] ats = {-90000, -33750, -3500, -701, -1, 0, 1, 99, 1000, 6500, 58500, 89999,
                rate * 1300 - 1, rate * 1300, rate * 1300 + 1, rate * -700 - 2, rate * -700 - 1, rate * -700};
            for (int at : ats) {
                if (at >= -90000 && at <= 89999) {
                    tripsAtAgainstAllWarmths(x, rate, at);
                }
            }
        }
    }

    private static void tripsAtAgainstAllWarmths(SnapStacks x, int rate, int at) {
        x.bounds(0, at, at + 1, 0);
        int up = Due.NONE;
        int back = Due.NONE;
        for (int t = -500; t <= 1500; t++) {
            up = up == Due.NONE && rate * (t - 200) >= at + 1 ? t : up;
            back = rate * (t - 200) <= at ? t : back;
        }
        Due.is("rate " + rate + ", high " + (at + 1), x.tripsAt(0, 0), up);
        Due.is("rate " + rate + ", low " + at, x.tripsAt(0, 1), back);
    }

    private static void tripsAtIsWhereATickPulls() {
        SnapStacks x = Scenes.still(93, 317, 0);
        int up = x.tripsAt(0, 0);
        int back = x.tripsAt(0, 1);
        Due.is("just below", Scenes.tickAt(x, up - 1), 0);
        Due.is("there it snaps", Scenes.tickAt(x, up), 1);
        Due.is("just above", Scenes.tickAt(x, back + 1), 0);
        Due.is("there it snaps back", Scenes.tickAt(x, back), 1);
    }
}
