import java.util.Arrays;

/** Strips of two metals that bend by warmth, and the rooms that are heated by their contacts. */
public final class SnapStacks {
    /** An argument is out of its range. */
    public static final int INVALID_ARGUMENT = -10000001;
    /** The call is not possible in the present state. */
    public static final int NOT_POSSIBLE = -10000002;
    /** A fixed limit has been reached. */
    public static final int LIMIT_REACHED = -10000003;
    /** There is no such value. */
    public static final int NOT_FOUND = -10000004;

    private static final int METALS = 6;
    private static final int MOST_NUMBER = 30;
    private static final int ROOMS = 3;
    private static final int MOST_PARTS = 8;
    private static final int MOST_LENGTH = 9;
    private static final int MOST_BOUND = 90000;
    private static final int MOST_LATE = 5;
    private static final int COLDEST = -500;
    private static final int WARMEST = 1500;
    private static final int STRAIGHT_AT = 200;
    private static final int SNAPS_UNTIL_TIRED = 0;
    private static final int TIRED_BY = 1;
    private static final int FIRST_METAL_COUNT = 10;
    private static final int MOST_TICKS = 200;

    private final State now;
    private final History history;
    private final Text text;
    private final LoopFinder loops;
    private final StackFinder stacks;
    private boolean loopIsSought;

    /** Creates three rooms with strips without parts. */
    public SnapStacks() {
        now = new State();
        history = new History();
        text = new Text();
        loops = new LoopFinder();
        stacks = new StackFinder();
        loopIsSought = false;
    }

    // ---- metals, strips

    /** Sets the number of a metal; returns what it was. */
    public int metal(int metal, int number) {
        if (!isWithin(metal, 0, METALS - 1) || !isWithin(number, 0, MOST_NUMBER)) {
            return INVALID_ARGUMENT;
        }
        recordChange();
        int was = now.numbers[metal];
        now.numbers[metal] = number;
        return was;
    }

    /** Adds a part to a strip, as its last one; returns how many parts it has then. */
    public int part(int strip, int length, int upper, int lower) {
        if (!isRoom(strip) || !isWithin(length, 1, MOST_LENGTH)
                || !isWithin(upper, 0, METALS - 1) || !isWithin(lower, 0, METALS - 1)) {
            return INVALID_ARGUMENT;
        }
        Strip it = now.strips[strip];
        if (it.parts >= MOST_PARTS) {
            return LIMIT_REACHED;
        }
        recordChange();
        it.addPart(length, upper, lower);
        return it.parts;
    }

    /** Cuts the last parts off a strip; returns how many parts it has then. */
    public int cut(int strip, int many) {
        if (!isRoom(strip) || !isWithin(many, 1, MOST_PARTS)) {
            return INVALID_ARGUMENT;
        }
        Strip it = now.strips[strip];
        if (it.parts < many) {
            return NOT_POSSIBLE;
        }
        recordChange();
        it.parts -= many;
        return it.parts;
    }

    /** Sets the bounds of a strip and its late ticks; returns its bend at the warmth of its room. */
    public int bounds(int strip, int low, int high, int late) {
        if (!isRoom(strip) || !isWithin(low, -MOST_BOUND, MOST_BOUND - 1)
                || !isWithin(high, low + 1, MOST_BOUND) || !isWithin(late, 0, MOST_LATE)) {
            return INVALID_ARGUMENT;
        }
        recordChange();
        Strip it = now.strips[strip];
        it.low = low;
        it.high = high;
        it.late = late;
        return now.bendInRoom(strip);
    }

    /** Sets the kind of the contact of a strip; returns 1 if it is closed then, otherwise 0. */
    public int contact(int strip, int kind) {
        if (!isRoom(strip) || !isWithin(kind, 0, 1)) {
            return INVALID_ARGUMENT;
        }
        recordChange();
        Strip it = now.strips[strip];
        it.kind = kind;
        return oneIf(it.isClosed());
    }

    // ---- rooms

    /** Sets the heater's power and the divisor of losses of a room; returns both as they were. */
    public int heat(int room, int power, int divisor) {
        if (!isRoom(room) || !isWithin(power, 0, 99) || !isWithin(divisor, 1, 99)) {
            return INVALID_ARGUMENT;
        }
        recordChange();
        Room it = now.rooms[room];
        int were = 100 * it.power + it.divisor;
        it.power = power;
        it.divisor = divisor;
        return were;
    }

    /** Sets the warmth of the outside; returns what it was. */
    public int outside(int warmth) {
        if (!isWarmth(warmth)) {
            return INVALID_ARGUMENT;
        }
        recordChange();
        int was = now.outside;
        now.outside = warmth;
        return was;
    }

    /** Sets the warmth of a room, without a pull at its strip; returns what it was. */
    public int warm(int room, int warmth) {
        if (!isRoom(room) || !isWarmth(warmth)) {
            return INVALID_ARGUMENT;
        }
        recordChange();
        Room it = now.rooms[room];
        int was = it.warmth;
        it.warmth = warmth;
        return was;
    }

    /** Opens a room to the next one, or closes that; returns how many openings there are then. */
    public int opening(int room, int is) {
        if (!isRoom(room) || !isWithin(is, 0, 1)) {
            return INVALID_ARGUMENT;
        }
        recordChange();
        now.rooms[room].isOpen = is == 1;
        return now.openings();
    }

    /** Sets a setting; returns what it was. */
    public int set(int what, int value) {
        if (!isSetting(what, value)) {
            return INVALID_ARGUMENT;
        }
        recordChange();
        int was = now.settings[what];
        now.settings[what] = value;
        return was;
    }

    /** Lets ticks go by; returns how many snaps, and snaps back, there are in them. */
    public int tick(int many) {
        if (!isWithin(many, 1, MOST_TICKS)) {
            return INVALID_ARGUMENT;
        }
        recordChange();
        now.sumRates();
        int changes = 0;
        for (int i = 0; i < many; i++) {
            changes += now.passTick();
        }
        return changes;
    }

    // ---- what there is

    /** Returns something of a strip. */
    public int stripOf(int strip, int what) {
        if (!isRoom(strip)) {
            return INVALID_ARGUMENT;
        }
        Strip it = now.strips[strip];
        switch (what) {
            case 0: return it.parts;
            case 1: return it.wholeLength();
            case 2: return it.rate(now.numbers);
            case 3: return now.bendInRoom(strip);
            case 4: return it.low;
            case 5: return it.high;
            case 6: return it.late;
            case 7: return oneIf(it.isSnapped);
            case 8: return it.pulls;
            case 9: return it.snaps;
            case 10: return it.kind;
            case 11: return oneIf(it.isClosed());
            default: return INVALID_ARGUMENT;
        }
    }

    /** Returns something of a part. */
    public int partOf(int strip, int index, int what) {
        if (!isRoom(strip) || index < 0 || !isWithin(what, 0, 3)) {
            return INVALID_ARGUMENT;
        }
        Strip it = now.strips[strip];
        if (index >= it.parts) {
            return NOT_FOUND;
        }
        switch (what) {
            case 0: return it.lengths[index];
            case 1: return it.uppers[index];
            case 2: return it.lowers[index];
            default: return it.partRate(index, now.numbers);
        }
    }

    /** Returns something of a room. */
    public int roomOf(int room, int what) {
        if (!isRoom(room)) {
            return INVALID_ARGUMENT;
        }
        Room it = now.rooms[room];
        switch (what) {
            case 0: return it.warmth;
            case 1: return it.power;
            case 2: return it.divisor;
            case 3: return oneIf(it.isOpen);
            case 4: return it.closedTicks;
            case 5: return now.ticks == 0 ? NOT_FOUND : it.greatest;
            case 6: return now.ticks == 0 ? NOT_FOUND : it.least;
            default: return INVALID_ARGUMENT;
        }
    }

    /** Returns a number. */
    public int count(int what) {
        switch (what) {
            case 0: return now.ticks;
            case 1: return now.snaps();
            case 2: return now.outside;
            case 3: return history.size;
            case 4: return text.length;
            case 5: return now.settings[SNAPS_UNTIL_TIRED];
            case 6: return now.settings[TIRED_BY];
            default: return numberOfMetal(what - FIRST_METAL_COUNT);
        }
    }

    // ---- what would be

    /** Tells the bend of a strip at a warmth. */
    public int bend(int strip, int warmth) {
        if (!isRoom(strip) || !isWarmth(warmth)) {
            return INVALID_ARGUMENT;
        }
        return bendAt(now.strips[strip].rate(now.numbers), warmth);
    }

    /** Finds the least warmth at which a strip would snap, or the greatest at which it would snap back. */
    public int tripsAt(int strip, int back) {
        if (!isRoom(strip) || !isWithin(back, 0, 1)) {
            return INVALID_ARGUMENT;
        }
        Strip it = now.strips[strip];
        int rate = it.rate(now.numbers);
        return back == 0 ? leastPulledUp(rate, it.high) : greatestPulledBack(rate, it.low);
    }

    /** Tells about the loop that rooms come to. */
    public int loop(int what) {
        if (!isWithin(what, 0, 2)) {
            return INVALID_ARGUMENT;
        }
        if (!loopIsSought) {
            loops.seek(now);
            loopIsSought = true;
        }
        if (!loops.isFound) {
            return NOT_FOUND;
        }
        switch (what) {
            case 0: return loops.lead;
            case 1: return loops.period;
            default: return loops.snaps;
        }
    }

    /** Finds the stack of the fewest parts that bends by a number for each tenth of a degree. */
    public int stack(int bend, int index, int what) {
        if (!isWithin(bend, -900, 900) || index < -1 || !isWithin(what, 0, 2)
                || (index == -1 && what != 0)) {
            return INVALID_ARGUMENT;
        }
        stacks.takeNumbers(now.numbers);
        int parts = stacks.fewestParts(bend);
        if (parts < 0 || index >= parts) {
            return NOT_FOUND;
        }
        return index == -1 ? parts : stacks.partOfLeastRow(parts, bend, index, what);
    }

    /** Restores the latest state of the history; returns how many are left in it. */
    public int undo() {
        if (history.size == 0) {
            return NOT_POSSIBLE;
        }
        history.giveBack(now);
        loopIsSought = false;
        return history.size;
    }

    // ---- texts

    /** Appends a character to the text; returns its length. */
    public int type(int character) {
        if (!isWithin(character, 32, 126)) {
            return INVALID_ARGUMENT;
        }
        if (text.length >= Text.MOST_CHARACTERS) {
            return LIMIT_REACHED;
        }
        text.append((char) character);
        return text.length;
    }

    /** Empties the text; returns the length it had. */
    public int clearText() {
        int had = text.length;
        text.length = 0;
        return had;
    }

    /** Tells about the fault of the text as a strip. */
    public int fault(int what) {
        if (!isWithin(what, 0, 1)) {
            return INVALID_ARGUMENT;
        }
        int place = text.faultyPlace();
        if (place == Text.NO_FAULT) {
            return NOT_FOUND;
        }
        return what == 0 ? place : text.reasonAt(place);
    }

    /** Makes the parts of a strip those of the text; returns how many parts it has then. */
    public int read(int strip) {
        if (!isRoom(strip)) {
            return INVALID_ARGUMENT;
        }
        if (text.faultyPlace() != Text.NO_FAULT) {
            return NOT_POSSIBLE;
        }
        recordChange();
        Strip it = now.strips[strip];
        it.parts = 0;
        for (int i = 0; i < text.parts(); i++) {
            it.addPart(text.lengthOfPart(i), text.upperOfPart(i), text.lowerOfPart(i));
        }
        return it.parts;
    }

    // ---- helpers

    private void recordChange() {
        history.take(now);
        loopIsSought = false;
    }

    private int numberOfMetal(int metal) {
        return isWithin(metal, 0, METALS - 1) ? now.numbers[metal] : INVALID_ARGUMENT;
    }

    private static boolean isWithin(int value, int least, int most) {
        return least <= value && value <= most;
    }

    private static boolean isRoom(int room) {
        return isWithin(room, 0, ROOMS - 1);
    }

    private static boolean isWarmth(int warmth) {
        return isWithin(warmth, COLDEST, WARMEST);
    }

    private static boolean isSetting(int what, int value) {
        return what == SNAPS_UNTIL_TIRED ? isWithin(value, 0, 99)
                : what == TIRED_BY && isWithin(value, 1, 999);
    }

    private static int oneIf(boolean is) {
        return is ? 1 : 0;
    }

    private static int bendAt(int rate, int warmth) {
        return rate * (warmth - STRAIGHT_AT);
    }

    private static int leastPulledUp(int rate, int high) {
        if (rate <= 0) {
            // No warmth bends the strip more than the coldest one, which is the least one too.
            return bendAt(rate, COLDEST) >= high ? COLDEST : NOT_FOUND;
        }
        int warmth = STRAIGHT_AT - Math.floorDiv(-high, rate);
        return warmth > WARMEST ? NOT_FOUND : Math.max(warmth, COLDEST);
    }

    private static int greatestPulledBack(int rate, int low) {
        if (rate <= 0) {
            // No warmth bends the strip less than the warmest one, which is the greatest one too.
            return bendAt(rate, WARMEST) <= low ? WARMEST : NOT_FOUND;
        }
        int warmth = STRAIGHT_AT + Math.floorDiv(low, rate);
        return warmth < COLDEST ? NOT_FOUND : Math.min(warmth, WARMEST);
    }

    /** Parts one behind the other, their bounds, and the contact that they move. */
    private static final class Strip {
        final int[] lengths;
        final int[] uppers;
        final int[] lowers;
        int parts;
        int low;
        int high;
        int late;
        int pulls;
        int snaps;
        int kind;
        boolean isSnapped;

        Strip() {
            lengths = new int[MOST_PARTS];
            uppers = new int[MOST_PARTS];
            lowers = new int[MOST_PARTS];
            low = 1000;
            high = 3000;
        }

        void copyFrom(Strip other) {
            System.arraycopy(other.lengths, 0, lengths, 0, MOST_PARTS);
            System.arraycopy(other.uppers, 0, uppers, 0, MOST_PARTS);
            System.arraycopy(other.lowers, 0, lowers, 0, MOST_PARTS);
            parts = other.parts;
            low = other.low;
            high = other.high;
            late = other.late;
            pulls = other.pulls;
            snaps = other.snaps;
            kind = other.kind;
            isSnapped = other.isSnapped;
        }

        void addPart(int length, int upper, int lower) {
            if (parts < MOST_PARTS) {
                lengths[parts] = length;
                uppers[parts] = upper;
                lowers[parts] = lower;
                parts++;
            }
        }

        int wholeLength() {
            int sum = 0;
            for (int i = 0; i < parts; i++) {
                sum += lengths[i];
            }
            return sum;
        }

        int partRate(int index, int[] numbers) {
            return lengths[index] * (numbers[uppers[index]] - numbers[lowers[index]]);
        }

        int rate(int[] numbers) {
            int sum = 0;
            for (int i = 0; i < parts; i++) {
                sum += partRate(i, numbers);
            }
            return sum;
        }

        boolean isClosed() {
            return isSnapped == (kind == 1);
        }

        boolean isPulledBy(int bend) {
            return isSnapped ? bend <= low : bend >= high;
        }

        /** Says whether the strip changes in a tick that bends it so. */
        boolean changesBy(int bend) {
            if (!isPulledBy(bend)) {
                pulls = 0;
                return false;
            }
            if (pulls < late) {
                pulls++;
                return false;
            }
            pulls = 0;
            isSnapped = !isSnapped;
            return true;
        }

        void getTired(int snapsUntilTired, int by) {
            if (snapsUntilTired > 0 && snaps % snapsUntilTired == 0 && high - by > low) {
                high -= by;
            }
        }
    }

    /** A room's warmth, what heats it and what it has been through. */
    private static final class Room {
        int warmth;
        int power;
        int divisor;
        boolean isOpen;
        int closedTicks;
        int greatest;
        int least;

        Room() {
            warmth = 200;
            divisor = 20;
            greatest = COLDEST;
            least = WARMEST;
        }

        void copyFrom(Room other) {
            warmth = other.warmth;
            power = other.power;
            divisor = other.divisor;
            isOpen = other.isOpen;
            closedTicks = other.closedTicks;
            greatest = other.greatest;
            least = other.least;
        }

        int lossTo(int outside) {
            return divisor == 0 ? 0 : (warmth - outside) / divisor;
        }

        int lossTo(Room other) {
            return (warmth - other.warmth) / 10;
        }

        void come(int newWarmth) {
            warmth = newWarmth;
            greatest = Math.max(greatest, newWarmth);
            least = Math.min(least, newWarmth);
        }
    }

    /** Everything that a change can change, and that an undo brings back. */
    private static final class State {
        final int[] numbers;
        final int[] settings;
        final Strip[] strips;
        final Room[] rooms;
        int outside;
        int ticks;
        // What follows is only for the ticks of one call, and so is not copied.
        final int[] rates;
        final int[] newWarmths;

        State() {
            numbers = new int[METALS];
            for (int k = 0; k < METALS; k++) {
                numbers[k] = 5 * k;
            }
            settings = new int[2];
            settings[TIRED_BY] = 50;
            strips = new Strip[ROOMS];
            rooms = new Room[ROOMS];
            for (int k = 0; k < ROOMS; k++) {
                strips[k] = new Strip();
                rooms[k] = new Room();
            }
            outside = 100;
            rates = new int[ROOMS];
            newWarmths = new int[ROOMS];
        }

        void copyFrom(State other) {
            System.arraycopy(other.numbers, 0, numbers, 0, METALS);
            System.arraycopy(other.settings, 0, settings, 0, 2);
            for (int k = 0; k < ROOMS; k++) {
                strips[k].copyFrom(other.strips[k]);
                rooms[k].copyFrom(other.rooms[k]);
            }
            outside = other.outside;
            ticks = other.ticks;
        }

        int bendInRoom(int strip) {
            return bendAt(strips[strip].rate(numbers), rooms[strip].warmth);
        }

        int openings() {
            int sum = 0;
            for (int k = 0; k < ROOMS; k++) {
                sum += oneIf(rooms[k].isOpen);
            }
            return sum;
        }

        int snaps() {
            int sum = 0;
            for (int k = 0; k < ROOMS; k++) {
                sum += strips[k].snaps;
            }
            return sum;
        }

        /** To be called ahead of ticks: in them no part changes, so that one sum does for all. */
        void sumRates() {
            for (int k = 0; k < ROOMS; k++) {
                rates[k] = strips[k].rate(numbers);
            }
        }

        /** Lets one tick go by; returns how many strips change. */
        int passTick() {
            for (int k = 0; k < ROOMS; k++) {
                newWarmths[k] = warmthToCome(k);
            }
            int changes = 0;
            for (int k = 0; k < ROOMS; k++) {
                rooms[k].closedTicks += oneIf(strips[k].isClosed());
                rooms[k].come(newWarmths[k]);
                changes += oneIf(moveStrip(k));
            }
            ticks++;
            return changes;
        }

        private int warmthToCome(int k) {
            Room room = rooms[k];
            Room next = rooms[(k + 1) % ROOMS];
            Room former = rooms[(k + ROOMS - 1) % ROOMS];
            int warmth = room.warmth - room.lossTo(outside);
            if (strips[k].isClosed()) {
                warmth += room.power;
            }
            if (room.isOpen) {
                warmth -= room.lossTo(next);
            }
            if (former.isOpen) {
                warmth -= room.lossTo(former);
            }
            return Math.max(COLDEST, Math.min(warmth, WARMEST));
        }

        private boolean moveStrip(int k) {
            Strip strip = strips[k];
            if (!strip.changesBy(bendAt(rates[k], rooms[k].warmth))) {
                return false;
            }
            if (strip.isSnapped) {
                strip.snaps++;
                strip.getTired(settings[SNAPS_UNTIL_TIRED], settings[TIRED_BY]);
            }
            return true;
        }

        /** What counts for a loop, as one number: 15 bits a room are enough for its limits. */
        long loopKey() {
            long key = 0;
            for (int k = 0; k < ROOMS; k++) {
                key = (key << 11) | (rooms[k].warmth - COLDEST);
                key = (key << 1) | oneIf(strips[k].isSnapped);
                key = (key << 3) | strips[k].pulls;
            }
            return key;
        }
    }

    /** The states ahead of the last changes, in a ring. */
    private static final class History {
        static final int MOST_STATES = 4;

        final State[] states;
        int oldest;
        int size;

        History() {
            states = new State[MOST_STATES];
            for (int i = 0; i < MOST_STATES; i++) {
                states[i] = new State();
            }
        }

        void take(State state) {
            states[(oldest + size) % MOST_STATES].copyFrom(state);
            if (size < MOST_STATES) {
                size++;
            } else {
                oldest = (oldest + 1) % MOST_STATES;
            }
        }

        void giveBack(State state) {
            if (size > 0) {
                size--;
                state.copyFrom(states[(oldest + size) % MOST_STATES]);
            }
        }
    }

    /** The text, and what it says as a strip. */
    private static final class Text {
        static final int MOST_CHARACTERS = 60;
        static final int NO_FAULT = -1;
        /** Three characters of a part, and the comma behind it. */
        static final int PART_STEP = 4;
        static final int NINTH_PART = MOST_PARTS * PART_STEP;

        final char[] characters;
        int length;

        Text() {
            characters = new char[MOST_CHARACTERS];
        }

        void append(char character) {
            if (length < MOST_CHARACTERS) {
                characters[length] = character;
                length++;
            }
        }

        int faultyPlace() {
            int end = Math.min(length, NINTH_PART);
            for (int i = 0; i < end; i++) {
                if (!canStandAt(i)) {
                    return i;
                }
            }
            if (length > NINTH_PART) {
                return NINTH_PART;
            }
            return length == 0 || length % PART_STEP == PART_STEP - 1 ? NO_FAULT : length;
        }

        int reasonAt(int place) {
            return place == NINTH_PART && length > NINTH_PART ? 2 : 1;
        }

        private boolean canStandAt(int index) {
            char character = characters[index];
            switch (index % PART_STEP) {
                case 0: return isWithin(character, '1', '9');
                case PART_STEP - 1: return character == ',';
                default: return isWithin(character, 'a', 'f');
            }
        }

        /** How many parts there are in a text without a fault. */
        int parts() {
            return (length + 1) / PART_STEP;
        }

        int lengthOfPart(int part) {
            return characters[part * PART_STEP] - '0';
        }

        int upperOfPart(int part) {
            return characters[part * PART_STEP + 1] - 'a';
        }

        int lowerOfPart(int part) {
            return characters[part * PART_STEP + 2] - 'a';
        }
    }

    /** Lets ticks go by on a copy until a state comes again. */
    private static final class LoopFinder {
        static final int MOST_STEPS = 1500;
        /** A power of two, far above the number of steps. */
        static final int SLOTS = 4096;
        static final int SLOT_BITS = 12;
        static final int NONE = -1;

        final State trial;
        final long[] keys;
        final int[] snapsUntil;
        final int[] stepInSlot;
        boolean isFound;
        int lead;
        int period;
        int snaps;

        LoopFinder() {
            trial = new State();
            keys = new long[MOST_STEPS + 1];
            snapsUntil = new int[MOST_STEPS + 1];
            stepInSlot = new int[SLOTS];
        }

        void seek(State start) {
            trial.copyFrom(start);
            // A loop is told as if strips got no more tired.
            trial.settings[SNAPS_UNTIL_TIRED] = 0;
            trial.sumRates();
            Arrays.fill(stepInSlot, NONE);
            isFound = false;
            for (int step = 0; step <= MOST_STEPS && !isFound; step++) {
                keys[step] = trial.loopKey();
                snapsUntil[step] = trial.snaps();
                int former = sameStepOrEnter(step);
                if (former != NONE) {
                    isFound = true;
                    lead = former;
                    period = step - former;
                    snaps = snapsUntil[step] - snapsUntil[former];
                }
                trial.passTick();
            }
        }

        /** The former step with the same state; without one, the step is entered for later ones. */
        private int sameStepOrEnter(int step) {
            long key = keys[step];
            int slot = (int) ((key * 0x9E3779B97F4A7C15L) >>> (64 - SLOT_BITS));
            for (int i = 0; i < SLOTS; i++) {
                int former = stepInSlot[slot];
                if (former == NONE) {
                    stepInSlot[slot] = step;
                    return NONE;
                }
                if (keys[former] == key) {
                    return former;
                }
                slot = (slot + 1) % SLOTS;
            }
            return NONE;
        }
    }

    /**
     * Finds stacks for the numbers of the metals. Sets of lengths are the bits of an int. As the
     * metals of a part can be exchanged, a bend and the opposite one have the same lengths.
     */
    private static final class StackFinder {
        static final int MOST_STACK = 3;
        static final int PAIRS = METALS * METALS;
        static final int MOST_BY_ONE = MOST_LENGTH * MOST_NUMBER;
        static final int MOST_BY_TWO = 2 * MOST_BY_ONE;

        final int[] numbers;
        boolean areTablesMade;
        /** The pairs of metals (6 times the upper one plus the lower) with differences of their own. */
        final int[] pairs;
        int pairCount;
        /** The lengths by which one part, or two, can bend by a number that is not below 0. */
        final int[] byOne;
        final int[] byTwo;

        StackFinder() {
            numbers = new int[METALS];
            pairs = new int[PAIRS];
            byOne = new int[MOST_BY_ONE + 1];
            byTwo = new int[MOST_BY_TWO + 1];
        }

        void takeNumbers(int[] newNumbers) {
            boolean areSame = areTablesMade;
            for (int k = 0; k < METALS; k++) {
                areSame = areSame && numbers[k] == newNumbers[k];
                numbers[k] = newNumbers[k];
            }
            if (!areSame) {
                collectPairs();
                fillByOne();
                fillByTwo();
                areTablesMade = true;
            }
        }

        /** How many parts the stack for a bend has; below 0 without one. */
        int fewestParts(int bend) {
            for (int parts = 0; parts <= MOST_STACK; parts++) {
                if (lengthsFor(parts, bend) != 0) {
                    return parts;
                }
            }
            return -1;
        }

        /** Tells of the part at an index in the least row of so many parts, with the least length. */
        int partOfLeastRow(int parts, int bend, int index, int what) {
            int restBend = bend;
            int restLength = leastLength(lengthsFor(parts, bend));
            int chosen = 0;
            for (int i = 0; i <= index; i++) {
                chosen = leastFirstPart(parts - i, restBend, restLength);
                restBend -= chosen / PAIRS * difference(chosen % PAIRS);
                restLength -= chosen / PAIRS;
            }
            switch (what) {
                case 0: return chosen / PAIRS;
                case 1: return chosen % PAIRS / METALS;
                default: return chosen % METALS;
            }
        }

        /** The least part that can be first, told as 36 times its length plus its pair of metals. */
        private int leastFirstPart(int parts, int bend, int wholeLength) {
            int longest = Math.min(MOST_LENGTH, wholeLength);
            for (int length = 1; length <= longest; length++) {
                int restBit = 1 << (wholeLength - length);
                for (int i = 0; i < pairCount; i++) {
                    int rest = bend - length * difference(pairs[i]);
                    if ((lengthsFor(parts - 1, rest) & restBit) != 0) {
                        return PAIRS * length + pairs[i];
                    }
                }
            }
            return 0;
        }

        private int lengthsFor(int parts, int bend) {
            switch (parts) {
                case 0: return bend == 0 ? 1 : 0;
                case 1: return lengthsByOne(bend);
                case 2: return lengthsByTwo(bend);
                default: return lengthsByThree(bend);
            }
        }

        private int lengthsByOne(int bend) {
            int size = Math.abs(bend);
            return size <= MOST_BY_ONE ? byOne[size] : 0;
        }

        private int lengthsByTwo(int bend) {
            int size = Math.abs(bend);
            return size <= MOST_BY_TWO ? byTwo[size] : 0;
        }

        private int lengthsByThree(int bend) {
            int lengths = 0;
            for (int length = 1; length <= MOST_LENGTH; length++) {
                for (int i = 0; i < pairCount; i++) {
                    lengths |= lengthsByTwo(bend - length * difference(pairs[i])) << length;
                }
            }
            return lengths;
        }

        private static int leastLength(int lengths) {
            int length = 0;
            while (length < MOST_STACK * MOST_LENGTH && (lengths >> length & 1) == 0) {
                length++;
            }
            return length;
        }

        private int difference(int pair) {
            return numbers[pair / METALS] - numbers[pair % METALS];
        }

        /** Of pairs with the same difference only the least one can stand in a least row. */
        private void collectPairs() {
            pairCount = 0;
            for (int pair = 0; pair < PAIRS; pair++) {
                boolean isNew = true;
                for (int i = 0; i < pairCount && isNew; i++) {
                    isNew = difference(pairs[i]) != difference(pair);
                }
                if (isNew) {
                    pairs[pairCount] = pair;
                    pairCount++;
                }
            }
        }

        private void fillByOne() {
            Arrays.fill(byOne, 0);
            for (int i = 0; i < pairCount; i++) {
                int by = Math.abs(difference(pairs[i]));
                for (int length = 1; length <= MOST_LENGTH; length++) {
                    byOne[length * by] |= 1 << length;
                }
            }
        }

        private void fillByTwo() {
            Arrays.fill(byTwo, 0);
            for (int bend = 0; bend <= MOST_BY_ONE; bend++) {
                if (byOne[bend] != 0) {
                    addToByTwo(bend, byOne[bend]);
                }
            }
        }

        private void addToByTwo(int bend, int lengths) {
            for (int i = 0; i < pairCount; i++) {
                for (int length = 1; length <= MOST_LENGTH; length++) {
                    int sum = bend + length * difference(pairs[i]);
                    // Of the two parts of a sum that is not below 0, one bends by no less than 0.
                    if (sum >= 0) {
                        byTwo[sum] |= lengths << length;
                    }
                }
            }
        }
    }
}
