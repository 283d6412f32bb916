import java.util.ArrayDeque;
import java.util.ArrayList;
import java.util.Arrays;
import java.util.HashMap;
import java.util.List;
import java.util.Map;

/** The document once more, as slow and plain as can be, to compare random runs with. */
final class SlowModel {
    static final int BAD = -10000001;
    static final int CANNOT = -10000002;
    static final int FULL = -10000003;
    static final int NOTHING = -10000004;

    /** One state, copied whole for the history. */
    static final class World {
        int[] metals = {0, 5, 10, 15, 20, 25};
        int[] settings = {0, 50};
        int outside = 100;
        int ticks = 0;
        List<List<int[]>> parts = new ArrayList<>(
                List.of(new ArrayList<>(), new ArrayList<>(), new ArrayList<>()));
        int[] low = {1000, 1000, 1000};
        int[] high = {3000, 3000, 3000};
        int[] late = new int[3];
        boolean[] snapped = new boolean[3];
        int[] pulls = new int[3];
        int[] snaps = new int[3];
        int[] kind = new int[3];
        int[] warmth = {200, 200, 200};
        int[] power = new int[3];
        int[] divisor = {20, 20, 20};
        boolean[] open = new boolean[3];
        int[] closedTicks = new int[3];
        List<List<Integer>> past = new ArrayList<>(
                List.of(new ArrayList<>(), new ArrayList<>(), new ArrayList<>()));

        World copy() {
            World w = new World();
            w.metals = metals.clone();
            w.settings = settings.clone();
            w.outside = outside;
            w.ticks = ticks;
            for (int k = 0; k < 3; k++) {
                w.parts.set(k, new ArrayList<>(parts.get(k)));
                w.past.set(k, new ArrayList<>(past.get(k)));
            }
            w.low = low.clone();
            w.high = high.clone();
            w.late = late.clone();
            w.snapped = snapped.clone();
            w.pulls = pulls.clone();
            w.snaps = snaps.clone();
            w.kind = kind.clone();
            w.warmth = warmth.clone();
            w.power = power.clone();
            w.divisor = divisor.clone();
            w.open = open.clone();
            w.closedTicks = closedTicks.clone();
            return w;
        }

        int rateOfPart(int[] p) {
            return p[0] * (metals[p[1]] - metals[p[2]]);
        }

        int bendAt(int k, int warm) {
            int sum = 0;
            for (int[] p : parts.get(k)) {
                sum += rateOfPart(p) * (warm - 200);
            }
            return sum;
        }

        boolean closed(int k) {
            return kind[k] == 0 ? !snapped[k] : snapped[k];
        }

        boolean joined(int a, int b) {
            return (open[a] && (a + 1) % 3 == b) || (open[b] && (b + 1) % 3 == a);
        }

        int tickOnce() {
            int[] fresh = new int[3];
            for (int k = 0; k < 3; k++) {
                int w = warmth[k];
                if (closed(k)) {
                    w += power[k];
                    closedTicks[k]++;
                }
                w -= (warmth[k] - outside) / divisor[k];
                for (int other = 0; other < 3; other++) {
                    if (other != k && joined(k, other)) {
                        w -= (warmth[k] - warmth[other]) / 10;
                    }
                }
                fresh[k] = w < -500 ? -500 : w > 1500 ? 1500 : w;
            }
            warmth = fresh;
            ticks++;
            int changes = 0;
            for (int k = 0; k < 3; k++) {
                past.get(k).add(fresh[k]);
                int b = bendAt(k, fresh[k]);
                boolean pull = (!snapped[k] && b >= high[k]) || (snapped[k] && b <= low[k]);
                if (!pull) {
                    pulls[k] = 0;
                } else if (pulls[k] >= late[k]) {
                    pulls[k] = 0;
                    changes++;
                    snapped[k] = !snapped[k];
                    if (snapped[k]) {
                        snaps[k]++;
                        if (settings[0] != 0 && snaps[k] % settings[0] == 0
                                && high[k] - settings[1] > low[k]) {
                            high[k] -= settings[1];
                        }
                    }
                } else {
                    pulls[k]++;
                }
            }
            return changes;
        }

        int allSnaps() {
            return snaps[0] + snaps[1] + snaps[2];
        }

        String loopState() {
            return Arrays.toString(warmth) + Arrays.toString(snapped) + Arrays.toString(pulls);
        }
    }

    private World w = new World();
    private final ArrayDeque<World> history = new ArrayDeque<>();
    private String text = "";
    private final Map<String, List<Map<Integer, int[]>>> stacks = new HashMap<>();

    private static boolean in(int v, int a, int b) {
        return v >= a && v <= b;
    }

    private void record() {
        history.addLast(w.copy());
        if (history.size() == 5) {
            history.removeFirst();
        }
    }

    int metal(int metal, int number) {
        if (!in(metal, 0, 5) || !in(number, 0, 30)) return BAD;
        record();
        int was = w.metals[metal];
        w.metals[metal] = number;
        return was;
    }

    int part(int strip, int length, int upper, int lower) {
        if (!in(strip, 0, 2) || !in(length, 1, 9) || !in(upper, 0, 5) || !in(lower, 0, 5)) return BAD;
        if (w.parts.get(strip).size() == 8) return FULL;
        record();
        w.parts.get(strip).add(new int[] {length, upper, lower});
        return w.parts.get(strip).size();
    }

    int cut(int strip, int many) {
        if (!in(strip, 0, 2) || !in(many, 1, 8)) return BAD;
        if (w.parts.get(strip).size() < many) return CANNOT;
        record();
        for (int i = 0; i < many; i++) {
            w.parts.get(strip).remove(w.parts.get(strip).size() - 1);
        }
        return w.parts.get(strip).size();
    }

    int bounds(int strip, int low, int high, int late) {
        if (!in(strip, 0, 2) || !in(low, -90000, 89999) || high <= low || high > 90000 || !in(late, 0, 5)) return BAD;
        record();
        w.low[strip] = low;
        w.high[strip] = high;
        w.late[strip] = late;
        return w.bendAt(strip, w.warmth[strip]);
    }

    int contact(int strip, int kind) {
        if (!in(strip, 0, 2) || !in(kind, 0, 1)) return BAD;
        record();
        w.kind[strip] = kind;
        return w.closed(strip) ? 1 : 0;
    }

    int heat(int room, int power, int divisor) {
        if (!in(room, 0, 2) || !in(power, 0, 99) || !in(divisor, 1, 99)) return BAD;
        record();
        int was = 100 * w.power[room] + w.divisor[room];
        w.power[room] = power;
        w.divisor[room] = divisor;
        return was;
    }

    int outside(int warmth) {
        if (!in(warmth, -500, 1500)) return BAD;
        record();
        int was = w.outside;
        w.outside = warmth;
        return was;
    }

    int warm(int room, int warmth) {
        if (!in(room, 0, 2) || !in(warmth, -500, 1500)) return BAD;
        record();
        int was = w.warmth[room];
        w.warmth[room] = warmth;
        return was;
    }

    int opening(int room, int is) {
        if (!in(room, 0, 2) || !in(is, 0, 1)) return BAD;
        record();
        w.open[room] = is == 1;
        int sum = 0;
        for (boolean o : w.open) sum += o ? 1 : 0;
        return sum;
    }

    int set(int what, int value) {
        if (what == 0 ? !in(value, 0, 99) : what != 1 || !in(value, 1, 999)) return BAD;
        record();
        int was = w.settings[what];
        w.settings[what] = value;
        return was;
    }

    int tick(int many) {
        if (!in(many, 1, 200)) return BAD;
        record();
        int changes = 0;
        for (int i = 0; i < many; i++) changes += w.tickOnce();
        return changes;
    }

    int stripOf(int strip, int what) {
        if (!in(strip, 0, 2) || !in(what, 0, 11)) return BAD;
        List<int[]> parts = w.parts.get(strip);
        int length = 0;
        for (int[] p : parts) length += p[0];
        int[] all = {parts.size(), length, w.bendAt(strip, 201), w.bendAt(strip, w.warmth[strip]),
            w.low[strip], w.high[strip], w.late[strip], w.snapped[strip] ? 1 : 0, w.pulls[strip],
            w.snaps[strip], w.kind[strip], w.closed(strip) ? 1 : 0};
        return all[what];
    }

    int partOf(int strip, int index, int what) {
        if (!in(strip, 0, 2) || index < 0 || !in(what, 0, 3)) return BAD;
        if (index >= w.parts.get(strip).size()) return NOTHING;
        int[] p = w.parts.get(strip).get(index);
        return what == 3 ? w.rateOfPart(p) : p[what];
    }

    int roomOf(int room, int what) {
        if (!in(room, 0, 2) || !in(what, 0, 6)) return BAD;
        if (what >= 5 && w.ticks == 0) return NOTHING;
        if (what == 5) return w.past.get(room).stream().mapToInt(i -> i).max().getAsInt();
        if (what == 6) return w.past.get(room).stream().mapToInt(i -> i).min().getAsInt();
        return new int[] {w.warmth[room], w.power[room], w.divisor[room], w.open[room] ? 1 : 0,
            w.closedTicks[room]}[what];
    }

    int count(int what) {
        if (in(what, 10, 15)) return w.metals[what - 10];
        if (!in(what, 0, 6)) return BAD;
        return new int[] {w.ticks, w.allSnaps(), w.outside, history.size(), text.length(),
            w.settings[0], w.settings[1]}[what];
    }

    int bend(int strip, int warmth) {
        if (!in(strip, 0, 2) || !in(warmth, -500, 1500)) return BAD;
        return w.bendAt(strip, warmth);
    }

    int tripsAt(int strip, int back) {
        if (!in(strip, 0, 2) || !in(back, 0, 1)) return BAD;
        if (back == 0) {
            for (int t = -500; t <= 1500; t++) {
                if (w.bendAt(strip, t) >= w.high[strip]) return t;
            }
        } else {
            for (int t = 1500; t >= -500; t--) {
                if (w.bendAt(strip, t) <= w.low[strip]) return t;
            }
        }
        return NOTHING;
    }

    int loop(int what) {
        if (!in(what, 0, 2)) return BAD;
        int[] told = loopWithin(1500);
        return told == null ? NOTHING : told[what];
    }

    /** Lead, period and snaps, if lead and period together are at most a number of ticks. */
    int[] loopWithin(int most) {
        World trial = w.copy();
        trial.settings[0] = 0;
        Map<String, Integer> seen = new HashMap<>();
        List<Integer> snaps = new ArrayList<>();
        for (int step = 0; step <= most; step++) {
            snaps.add(trial.allSnaps());
            Integer former = seen.putIfAbsent(trial.loopState(), step);
            if (former != null) {
                return new int[] {former, step - former, snaps.get(step) - snaps.get(former)};
            }
            trial.tickOnce();
        }
        return null;
    }

    int stack(int bend, int index, int what) {
        if (!in(bend, -900, 900) || index < -1 || !in(what, 0, 2) || (index == -1 && what != 0)) return BAD;
        List<Map<Integer, int[]>> best =
                stacks.computeIfAbsent(Arrays.toString(w.metals), k -> bestStacks(w.metals));
        for (int parts = 0; parts <= 3; parts++) {
            int[] row = best.get(parts).get(bend);
            if (row != null) {
                return index == -1 ? parts : index >= parts ? NOTHING : row[3 * index + what];
            }
        }
        return NOTHING;
    }

    /** For each number of parts: the bends that so many reach, with the best row for each. */
    static List<Map<Integer, int[]>> bestStacks(int[] metals) {
        List<Map<Integer, int[]>> best = new ArrayList<>();
        best.add(new HashMap<>(Map.of(0, new int[0])));
        for (int parts = 1; parts <= 3; parts++) {
            Map<Integer, int[]> more = new HashMap<>();
            for (Map.Entry<Integer, int[]> rest : best.get(parts - 1).entrySet()) {
                for (int length = 1; length <= 9; length++) {
                    for (int u = 0; u < 6; u++) {
                        for (int l = 0; l < 6; l++) {
                            int[] row = new int[3 * parts];
                            row[0] = length;
                            row[1] = u;
                            row[2] = l;
                            System.arraycopy(rest.getValue(), 0, row, 3, row.length - 3);
                            more.merge(rest.getKey() + length * (metals[u] - metals[l]), row,
                                    (a, b) -> isBetter(b, a) ? b : a);
                        }
                    }
                }
            }
            best.add(more);
        }
        return best;
    }

    static boolean isBetter(int[] a, int[] b) {
        int lengthA = 0;
        int lengthB = 0;
        for (int i = 0; i < a.length; i += 3) {
            lengthA += a[i];
            lengthB += b[i];
        }
        return lengthA != lengthB ? lengthA < lengthB : Arrays.compare(a, b) < 0;
    }

    int undo() {
        if (history.isEmpty()) return CANNOT;
        w = history.removeLast();
        return history.size();
    }

    int type(int character) {
        if (!in(character, 32, 126)) return BAD;
        if (text.length() == 60) return FULL;
        text += (char) character;
        return text.length();
    }

    int clearText() {
        int had = text.length();
        text = "";
        return had;
    }

    /** The fault as 10 times its place plus its reason, or below 0, found part by part. */
    private int faultOfText() {
        if (text.isEmpty()) return -1;
        int at = 0;
        for (int part = 0; ; part++) {
            if (part == 8) return at < text.length() ? 10 * at + 2 : 10 * at + 1;
            for (String may : new String[] {"123456789", "abcdef", "abcdef"}) {
                if (at == text.length() || may.indexOf(text.charAt(at)) < 0) return 10 * at + 1;
                at++;
            }
            if (at == text.length()) return -1;
            if (text.charAt(at) != ',') return 10 * at + 1;
            at++;
        }
    }

    int fault(int what) {
        if (!in(what, 0, 1)) return BAD;
        int f = faultOfText();
        return f < 0 ? NOTHING : what == 0 ? f / 10 : f % 10;
    }

    int read(int strip) {
        if (!in(strip, 0, 2)) return BAD;
        if (faultOfText() >= 0) return CANNOT;
        record();
        w.parts.get(strip).clear();
        if (!text.isEmpty()) {
            for (String p : text.split(",")) {
                w.parts.get(strip).add(new int[] {p.charAt(0) - '0', p.charAt(1) - 'a', p.charAt(2) - 'a'});
            }
        }
        return w.parts.get(strip).size();
    }
}
