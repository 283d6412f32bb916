/** Promises 7 to 12: heat, outside, warm, opening, set, tick. Ranges and refusals have tests of their own. */
public final class RoomsTest {
    public static void main(String[] args) {
        heat();
        outside();
        warm();
        opening();
        set();
        tickIsOneChange();
        manyTicksAreAsManyTimesOne();
        allTicksOfAnObject();
        tickWarmth();
        lossesAreRoundedTowards0();
        lossesThroughOpenings();
        tickHoldsAtTheMost();
        tickHoldsAtTheLeast();
        tickJoins();
        allJoined();
        tickContacts();
        Due.end();
    }

    private static void heat() {
        SnapStacks x = new SnapStacks();
        Due.is("heat(0, 99, 1)", x.heat(0, 99, 1), 20);
        Due.is("heat(0, 0, 99)", x.heat(0, 0, 99), 9901);
        Due.is("heat(0, 99, 99)", x.heat(0, 99, 99), 99);
        Due.is("heat(0, 0, 1)", x.heat(0, 0, 1), 9999);
        Due.is("heat(0, 7, 30)", x.heat(0, 7, 30), 1);
        Due.is("the power", x.roomOf(0, 1), 7);
        Due.is("the divisor", x.roomOf(0, 2), 30);
        Due.is("another room's power", x.roomOf(1, 1), 0);
        Due.is("another room's divisor", x.roomOf(1, 2), 20);
    }

    private static void outside() {
        SnapStacks x = new SnapStacks();
        Due.is("outside(-500)", x.outside(-500), 100);
        Due.is("outside(1500)", x.outside(1500), -500);
        Due.is("outside(3)", x.outside(3), 1500);
        Due.is("outside(3) again", x.outside(3), 3);
        Due.is("count(2)", x.count(2), 3);
        Due.is("no room is warmer by it", x.roomOf(0, 0), 200);
    }

    /** "Its strip is not pulled by it." */
    private static void warm() {
        SnapStacks x = new SnapStacks();
        x.part(2, 9, 5, 0);
        x.bounds(2, 1000, 3000, 1);
        Due.is("warm(2, 1500)", x.warm(2, 1500), 200);
        Due.is("no snap by it", x.stripOf(2, 7), 0);
        Due.is("no pull by it", x.stripOf(2, 8), 0);
        Due.is("the bend by it", x.stripOf(2, 3), 225 * 1300);
        Due.is("no greatest warmth by it", x.roomOf(2, 5), Due.NONE);
        Due.is("no least warmth by it", x.roomOf(2, 6), Due.NONE);
        Due.is("another room", x.roomOf(1, 0), 200);
        x.tick(1);
        Due.is("a pull by a tick", x.stripOf(2, 8), 1);
        x.warm(2, -500);
        Due.is("pulls stay", x.stripOf(2, 8), 1);
        Due.is("the least warmth", x.roomOf(2, 0), -500);
    }

    private static void opening() {
        SnapStacks x = new SnapStacks();
        Due.is("a closed one is closed", x.opening(1, 0), 0);
        Due.is("opening(2, 1)", x.opening(2, 1), 1);
        Due.is("opening(2, 1) again", x.opening(2, 1), 1);
        Due.is("opening(0, 1)", x.opening(0, 1), 2);
        Due.is("opening(1, 1)", x.opening(1, 1), 3);
        Due.is("opening(2, 0)", x.opening(2, 0), 2);
        Due.is("room 2", x.roomOf(2, 3), 0);
        Due.is("room 1", x.roomOf(1, 3), 1);
        Due.is("opening(1, 0)", x.opening(1, 0), 1);
        Due.is("opening(0, 0)", x.opening(0, 0), 0);
    }

    private static void set() {
        SnapStacks x = new SnapStacks();
        Due.is("set(0, 99)", x.set(0, 99), 0);
        Due.is("set(0, 0)", x.set(0, 0), 99);
        Due.is("set(1, 999)", x.set(1, 999), 50);
        Due.is("set(1, 1)", x.set(1, 1), 999);
        Due.is("set(1, 1) again", x.set(1, 1), 1);
        Due.is("count(5)", x.count(5), 0);
        Due.is("count(6)", x.count(6), 1);
    }

    private static void tickIsOneChange() {
        SnapStacks x = new SnapStacks();
        Due.is("tick(200)", x.tick(200), 0);
        Due.is("count(0)", x.count(0), 200);
        Due.is("one change in the history", x.count(3), 1);
        Due.is("tick(1)", x.tick(1), 0);
        Due.is("count(0)", x.count(0), 201);
        Due.is("two changes in the history", x.count(3), 2);
    }

    /** "many: 1 to 200": the ticks of one call are as those of many calls. */
    private static void manyTicksAreAsManyTimesOne() {
        SnapStacks x = Scenes.busy();
        SnapStacks y = Scenes.busy();
        int changes = 0;
        for (int i = 0; i < 200; i++) {
            changes += y.tick(1);
        }
        Due.is("tick(200)", x.tick(200), changes);
        Due.holds("there are snaps in them", changes > 10);
        Due.same("behind 200 ticks", Due.stateOf(x), Due.stateOf(y));
    }

    /** "An object is used for at most 512 calls": the last of them tells of the most ticks. */
    private static void allTicksOfAnObject() {
        SnapStacks x = new SnapStacks();
        x.bounds(0, 0, 50, 0);
        x.heat(0, 10, 1);
        x.outside(200);
        x.part(0, 1, 1, 0);
        for (int call = 5; call < Due.MOST_CALLS - 4; call++) {
            Due.is("each second tick snaps, or snaps back", x.tick(200), 200);
        }
        int ticks = 200 * (Due.MOST_CALLS - 9);
        Due.is("snaps", x.stripOf(0, 9), ticks / 2);
        Due.is("snaps of all strips", x.count(1), ticks / 2);
        Due.is("closed ticks", x.roomOf(0, 4), ticks / 2);
        Due.is("closed ticks of another room", x.roomOf(1, 4), ticks);
        Due.is("the last call: all ticks", x.count(0), ticks);
    }

    private static void tickWarmth() {
        SnapStacks x = new SnapStacks();
        x.heat(0, 30, 20);
        x.heat(1, 0, 7);
        x.warm(2, -119);
        x.tick(1);
        Due.is("heated: 200 + 30 - 5", x.roomOf(0, 0), 225);
        Due.is("lost: 200 - 100 / 7", x.roomOf(1, 0), 186);
        Due.is("gained, towards 0: -119 + 219 / 20", x.roomOf(2, 0), -109);
        x.tick(1);
        Due.is("225 + 30 - 6", x.roomOf(0, 0), 249);
        Due.is("the greatest", x.roomOf(0, 5), 249);
        Due.is("the least", x.roomOf(0, 6), 225);
        Due.is("greatest while cooling", x.roomOf(1, 5), 186);
        Due.is("least while warming", x.roomOf(2, 6), -109);
        Due.is("greatest below 0", x.roomOf(2, 5), -99);
    }

    /** "Divisions are rounded towards 0", with the outside at 200. */
    private static void lossesAreRoundedTowards0() {
        int[][] divisorWarmthBehind = {
            {20, 219, 219}, {20, 220, 219}, {20, 239, 238}, {20, 240, 238},
            {20, 181, 181}, {20, 180, 181}, {20, 161, 162}, {20, 160, 162},
            {1, 201, 200}, {1, 199, 200}, {1, 1500, 200}, {1, -500, 200}, {2, 201, 201}, {2, 199, 199},
            {2, 203, 202}, {2, 197, 198}, {99, 298, 298}, {99, 299, 298}, {99, 102, 102}, {99, 101, 102},
            {99, 1500, 1487}, {99, -500, -493},
        };
        for (int[] row : divisorWarmthBehind) {
            SnapStacks x = new SnapStacks();
            x.outside(200);
            x.heat(1, 0, row[0]);
            x.warm(1, row[1]);
            x.tick(1);
            Due.is("from " + row[1] + " by a divisor of " + row[0], x.roomOf(1, 0), row[2]);
        }
    }

    /** A tenth, rounded towards 0, goes through an opening, both ways alike. */
    private static void lossesThroughOpenings() {
        int[][] differenceAndLoss = {{0, 0}, {1, 0}, {9, 0}, {10, 1}, {19, 1}, {20, 2}, {-9, 0}, {-10, -1},
            {-19, -1}, {-20, -2}};
        for (int[] row : differenceAndLoss) {
            for (int opened = 0; opened < 3; opened++) {
                int next = opened == 2 ? 0 : opened + 1;
                SnapStacks x = new SnapStacks();
                x.outside(200);
                for (int k = 0; k < 3; k++) {
                    x.heat(k, 0, 99);
                }
                x.warm(opened, 200 + row[0]);
                x.opening(opened, 1);
                x.tick(1);
                Due.is("room " + opened + " by " + row[0], x.roomOf(opened, 0), 200 + row[0] - row[1]);
                Due.is("room " + next + " by " + row[0], x.roomOf(next, 0), 200 + row[1]);
                Due.is("the third room", x.roomOf(3 - opened - next, 0), 200);
            }
        }
    }

    private static int heated(int warmth, int power, int outside) {
        SnapStacks x = new SnapStacks();
        x.outside(outside);
        x.heat(0, power, 99);
        x.warm(0, warmth);
        x.tick(1);
        Due.is("it is the greatest one, too", x.roomOf(0, 5), x.roomOf(0, 0));
        Due.is("and the least one", x.roomOf(0, 6), x.roomOf(0, 0));
        return x.roomOf(0, 0);
    }

    /** "Then held within -500 to 1500". */
    private static void tickHoldsAtTheMost() {
        Due.is("just below the most", heated(1450, 49, 1450), 1499);
        Due.is("at the most", heated(1450, 50, 1450), 1500);
        Due.is("just above the most", heated(1450, 51, 1450), 1500);
        Due.is("far above the most", heated(1500, 99, 1500), 1500);
    }

    private static int cooled(int warmth, int first, int second) {
        SnapStacks x = new SnapStacks();
        x.outside(-500);
        x.heat(0, 0, 1);
        x.warm(0, warmth);
        x.warm(1, first);
        x.warm(2, second);
        x.opening(0, 1);
        x.opening(2, 1);
        x.tick(1);
        Due.is("it is the greatest one, too", x.roomOf(0, 5), x.roomOf(0, 0));
        Due.is("and the least one", x.roomOf(0, 6), x.roomOf(0, 0));
        return x.roomOf(0, 0);
    }

    private static void tickHoldsAtTheLeast() {
        // The outside alone would bring the room to -500; the rooms beside it move it from there.
        Due.is("just above the least", cooled(0, -10, 20), -499);
        Due.is("at the least", cooled(0, -10, 10), -500);
        Due.is("just below the least", cooled(0, -10, 0), -500);
        Due.is("far below the least", cooled(1500, -500, -500), -500);
    }

    private static void tickJoins() {
        for (int opened = 0; opened < 3; opened++) {
            SnapStacks x = new SnapStacks();
            x.warm(1, 209);
            x.warm(2, 300);
            x.outside(209);
            x.heat(0, 0, 99);
            x.heat(1, 0, 99);
            x.heat(2, 0, 99);
            x.opening(opened, 1);
            x.tick(1);
            int first = opened == 2 ? 200 + 10 : 200;
            int second = opened == 1 ? 209 + 9 : 209;
            int third = opened == 2 ? 300 - 10 : opened == 1 ? 300 - 9 : 300;
            Due.is("opening " + opened + ": room 0", x.roomOf(0, 0), first);
            Due.is("opening " + opened + ": room 1", x.roomOf(1, 0), second);
            Due.is("opening " + opened + ": room 2", x.roomOf(2, 0), third);
        }
    }

    private static void allJoined() {
        SnapStacks x = new SnapStacks();
        x.outside(200);
        x.warm(1, 299);
        x.warm(2, 95);
        for (int k = 0; k < 3; k++) {
            x.heat(k, 0, 99);
            x.opening(k, 1);
        }
        x.tick(1);
        Due.is("all open: 200 + 9 - 10", x.roomOf(0, 0), 199);
        Due.is("all open: 299 - 1 - 9 - 20", x.roomOf(1, 0), 299 - 1 - 9 - 20);
        Due.is("all open: 95 + 1 + 10 + 20", x.roomOf(2, 0), 95 + 1 + 10 + 20);
    }

    private static void tickContacts() {
        SnapStacks x = new SnapStacks();
        x.outside(200);
        x.heat(0, 10, 99);
        x.contact(0, 1);
        x.bounds(0, -1, 0, 0);
        x.tick(1);
        Due.is("open at the beginning: no heat", x.roomOf(0, 0), 200);
        Due.is("ticks closed", x.roomOf(0, 4), 0);
        x.tick(1);
        Due.is("closed at the beginning: heat", x.roomOf(0, 0), 210);
        Due.is("ticks closed", x.roomOf(0, 4), 1);
        Due.is("ticks closed without power", x.roomOf(1, 4), 2);
        x.contact(0, 0);
        x.tick(3);
        Due.is("kind 0 while snapped", x.roomOf(0, 4), 1);
    }
}
