import java.util.ArrayList;
import java.util.Arrays;
import java.util.List;
import java.util.regex.Matcher;
import java.util.regex.Pattern;

/** The document once more, told as plainly as the Java library allows and with no thought of speed. */
final class Model {
    private static final int BAD = GongHouse.BAD, NO = GongHouse.NO, FULL = GongHouse.FULL, NONE = GongHouse.NONE,
        NOTHING = GongHouse.NOTHING, INDEX = GongHouse.INDEX, SIZE = GongHouse.SIZE;
    private static final String BEAT = "[1-7.][GgHL]?";
    private static final Pattern TUNE = Pattern.compile("(?:" + BEAT + "|\\[(?:" + BEAT + ")+\\][2-9])+");
    private static final Pattern REPEAT = Pattern.compile("\\[([^\\]]*)\\](.)");
    private static final Pattern ONE_BEAT = Pattern.compile(BEAT);

    private record Round(int circle, int level, int part, int tick) { }

    private String tape = "";
    private final List<List<String>> circles = new ArrayList<>();
    private final Integer[][][][] shifts = new Integer[4][6][2][];
    private final boolean[][][] may = new boolean[4][6][];
    private final int[][] used = new int[4][3];
    private final List<int[]> parts = new ArrayList<>();
    private final java.util.TreeMap<Integer, Integer> signals = new java.util.TreeMap<>();
    private final byte[][] sheets = new byte[2][];

    Model() {
        for (int c = 0; c < 4; c++) {
            circles.add(List.of(".", ".", ".", ".", ".", ".", ".", "."));
        }
        for (int l = 0; l < 4; l++) {
            for (int f = 0; f < 6; f++) {
                may[l][f] = new boolean[steps(l)];
                for (int h = 0; h < 2; h++) {
                    shifts[l][f][h] = new Integer[steps(l)];
                }
            }
        }
    }

    /** One call by its place in the document's face (0 feed .. 23 count). */
    int call(int method, int[] a) {
        switch (method) {
            case 0: return feed(a[0], a[1], a[2]);
            case 1: return trim(a[0]);
            case 2: return tune(a[0]);
            case 3: return told(a[0], a[1], a[2]);
            case 4: return isOf(a[0], a[1], a[2]);
            case 5: return strike(a[0], a[1], a[2], a[3], a[4]);
            case 6: return lay(a[0], a[1], a[2], a[3]);
            case 7: return together(a[0], a[1], a[2], a[3]);
            case 8: return wrong(a[0], a[1]);
            case 9: return use(a[0], a[1], a[2]);
            case 10: return part(a[0], a[1], a[2]);
            case 11: return signal(a[0], a[1]);
            case 12: return drop();
            case 13: return round(a[0], a[1]);
            case 14: return plays(a[0], a[1], a[2], a[3]);
            case 15: return damps(a[0], a[1], a[2], a[3]);
            case 16: return strikes(a[0], a[1]);
            case 17: return ticks();
            case 18: return leaps(a[0], a[1], a[2]);
            case 19: return choice(a[0], a[1]);
            case 20: return sheet(a[0], a[1]);
            case 21: return mark(a[0], a[1], a[2]);
            case 22: return copy(a[0], a[1], a[2], a[3], a[4]);
            default: return count(a[0]);
        }
    }

    private static int steps(int level) {
        return new int[] {2, 4, 8, 16}[level];
    }

    private static boolean in(int v, int low, int high) {
        return low <= v && v <= high;
    }

    private int feed(int a, int b, int c) {
        if (tape.length() > 52) {
            return FULL;
        }
        for (int word : new int[] {a, b, c}) {
            for (byte one : java.nio.ByteBuffer.allocate(4).putInt(word).array()) {
                tape += (char) (one & 255);
            }
        }
        return tape.length();
    }

    private int trim(int n) {
        if (!in(n, 0, tape.length())) {
            return BAD;
        }
        tape = tape.substring(0, n);
        return n;
    }

    private int tune(int circle) {
        String text = tape;
        tape = "";
        if (!in(circle, 0, 3)) {
            return BAD;
        }
        for (int many = 1; many <= text.length(); many++) {
            Matcher head = TUNE.matcher(text.substring(0, many));
            if (!head.matches() && !head.hitEnd()) {
                return -100 - (many - 1);
            }
        }
        if (!TUNE.matcher(text).matches()) {
            return -100 - text.length();
        }
        String whole = REPEAT.matcher(text).replaceAll(m -> m.group(1).repeat(m.group(2).charAt(0) - '0'));
        List<String> beats = new ArrayList<>();
        for (Matcher m = ONE_BEAT.matcher(whole); m.find(); ) {
            beats.add(m.group());
        }
        if (!in(beats.size(), 2, 32)) {
            return NO;
        }
        circles.set(circle, beats);
        return beats.size();
    }

    private boolean isBeat(int circle, int beat) {
        return in(circle, 0, 3) && in(beat, 0, circles.get(circle).size() - 1);
    }

    private int note(int circle, int beat) {
        char sign = circles.get(circle).get(beat).charAt(0);
        return sign == '.' ? NONE : sign - '1';
    }

    private int tone(int circle, int beat) {
        int size = circles.get(circle).size();
        for (int back = 0; back < size; back++) {
            int note = note(circle, (beat - back + size) % size);
            if (note != NONE) {
                return note;
            }
        }
        return 0;
    }

    private int gong(int circle, int beat) {
        String text = circles.get(circle).get(beat);
        return text.length() < 2 ? NONE : "gGHL".indexOf(text.charAt(1));
    }

    private int told(int circle, int beat, int what) {
        if (!isBeat(circle, beat) || !in(what, 0, 2)) {
            return BAD;
        }
        return what == 0 ? note(circle, beat) : what == 1 ? tone(circle, beat) : gong(circle, beat);
    }

    private int isOf(int circle, int beat, int kind) {
        if (!isBeat(circle, beat) || !in(kind, 0, 3)) {
            return BAD;
        }
        int gong = gong(circle, beat);
        if (gong == NONE) {
            return NO;
        }
        return kind == 0 || kind == gong || kind == 2 && gong == 3 ? 1 : 0;
    }

    private boolean isFigure(int level, int figure) {
        return in(level, 0, 3) && in(figure, 0, 5);
    }

    private int strike(int level, int figure, int half, int step, int shift) {
        if (!isFigure(level, figure) || !in(half, 0, 1) || !in(step, 0, steps(level) - 1) || !in(shift, -4, 4) && shift != NONE) {
            return BAD;
        }
        Integer was = shifts[level][figure][half][step];
        shifts[level][figure][half][step] = shift == NONE ? null : (Integer) shift;
        return was == null ? NONE : was;
    }

    private int lay(int level, int figure, int half, int sheet) {
        if (!isFigure(level, figure) || !in(half, 0, 1) || !in(sheet, 0, 1)) {
            return BAD;
        }
        if (sheets[sheet] == null) {
            return NOTHING;
        }
        if (sheets[sheet].length > steps(level)) {
            return INDEX;
        }
        Integer[] row = new Integer[steps(level)];
        int many = 0;
        for (int i = 0; i < sheets[sheet].length; i++) {
            if (in(sheets[sheet][i], -4, 4)) {
                row[i] = (int) sheets[sheet][i];
                many++;
            }
        }
        shifts[level][figure][half] = row;
        return many;
    }

    private int together(int level, int figure, int step, int on) {
        if (!isFigure(level, figure) || !in(step, 0, steps(level) - 1) || !in(on, 0, 1)) {
            return BAD;
        }
        int was = may[level][figure][step] ? 1 : 0;
        may[level][figure][step] = on == 1;
        return was;
    }

    private int wrong(int level, int figure) {
        if (!isFigure(level, figure)) {
            return BAD;
        }
        for (int step = 0; step < steps(level); step++) {
            int strikers = 0;
            for (int half = 0; half < 2; half++) {
                strikers += shifts[level][figure][half][step] == null ? 0 : 1;
            }
            if (strikers == 0 || strikers == 2 && !may[level][figure][step]) {
                return step;
            }
        }
        return NONE;
    }

    private int use(int level, int which, int figure) {
        if (!isFigure(level, figure) || !in(which, 0, 2)) {
            return BAD;
        }
        int was = used[level][which];
        used[level][which] = figure;
        return was;
    }

    private int part(int circle, int times, int level) {
        if (!in(circle, 0, 3) || !in(times, 1, 9) || !in(level, 0, 3) && level != NONE) {
            return BAD;
        }
        if (parts.size() == 16) {
            return FULL;
        }
        parts.add(new int[] {circle, times, level});
        return parts.size();
    }

    private int signal(int round, int level) {
        if (!in(round, 0, 143) || !in(level, 0, 3) && level != NONE) {
            return BAD;
        }
        if (level != NONE && !signals.containsKey(round) && signals.size() == 20) {
            return FULL;
        }
        Integer was = level == NONE ? signals.remove(round) : signals.put(round, level);
        return was == null ? NONE : was;
    }

    private int drop() {
        int had = parts.size();
        parts.clear();
        signals.clear();
        return had;
    }

    private List<Round> rounds() {
        List<Round> all = new ArrayList<>();
        int level = 0;
        int tick = 0;
        for (int p = 0; p < parts.size(); p++) {
            int circle = parts.get(p)[0];
            for (int time = 0; time < parts.get(p)[1]; time++) {
                if (signals.containsKey(all.size() - 1)) {
                    level = signals.get(all.size() - 1);
                }
                if (time == 0 && parts.get(p)[2] != NONE) {
                    level = parts.get(p)[2];
                }
                all.add(new Round(circle, level, p, tick));
                tick += roundTicks(circle, level);
            }
        }
        return all;
    }

    private int roundTicks(int circle, int level) {
        return circles.get(circle).size() * new int[] {32, 64, 128, 256}[level];
    }

    private int round(int round, int what) {
        List<Round> all = rounds();
        if (!in(round, 0, all.size() - 1) || !in(what, 0, 3)) {
            return BAD;
        }
        Round r = all.get(round);
        return new int[] {r.circle, r.level, r.part, r.tick}[what];
    }

    private int turn(int circle, int beat) {
        int next = (beat + 1) % circles.get(circle).size();
        int rise = Integer.signum(tone(circle, next) - tone(circle, beat));
        return rise == 0 ? 0 : rise > 0 ? 1 : 2;
    }

    private int key(int circle, int beat, Integer shift) {
        if (shift == null) {
            return NONE;
        }
        int key = tone(circle, beat) + shift;
        return key < 0 ? key + 5 : key > 9 ? key - 5 : key;
    }

    private int plays(int player, int round, int beat, int step) {
        List<Round> all = rounds();
        if (!in(player, 0, 3) || !in(round, 0, all.size() - 1)) {
            return BAD;
        }
        Round r = all.get(round);
        if (!isBeat(r.circle, beat) || !in(step, 0, steps(r.level) - 1)) {
            return BAD;
        }
        if (player == 0 || player == 3) {
            return step > 0 ? NONE : player == 0 ? note(r.circle, beat) : gong(r.circle, beat);
        }
        return key(r.circle, beat, shifts[r.level][used[r.level][turn(r.circle, beat)]][player - 1][step]);
    }

    private int damps(int player, int round, int beat, int step) {
        int now = plays(player, round, beat, step);
        if (!in(player, 1, 2) || now == BAD) {
            return BAD;
        }
        int last = NONE;
        for (int s = 0; s < step; s++) {
            int key = plays(player, round, beat, s);
            last = key == NONE ? last : key;
        }
        return now != NONE && now != last ? last : NONE;
    }

    private int strikes(int player, int round) {
        List<Round> all = rounds();
        if (!in(player, 0, 3) || !in(round, 0, all.size() - 1)) {
            return BAD;
        }
        int many = 0;
        for (int beat = 0; beat < circles.get(all.get(round).circle).size(); beat++) {
            for (int step = 0; step < steps(all.get(round).level); step++) {
                many += plays(player, round, beat, step) == NONE ? 0 : 1;
            }
        }
        return many;
    }

    private int ticks() {
        return rounds().stream().mapToInt(r -> roundTicks(r.circle, r.level)).sum();
    }

    private int leaps(int circle, int level, int figures) {
        if (!in(circle, 0, 3) || !in(level, 0, 3) || !in(figures, 0, 555)) {
            return BAD;
        }
        int[] three = {figures / 100, figures % 100 / 10, figures % 10};
        if (Arrays.stream(three).anyMatch(f -> f > 5)) {
            return BAD;
        }
        if (Arrays.stream(three).anyMatch(f -> wrong(level, f) != NONE)) {
            return NO;
        }
        List<Integer> line = new ArrayList<>();
        for (int beat = 0; beat < circles.get(circle).size(); beat++) {
            Integer[][] halves = shifts[level][three[turn(circle, beat)]];
            for (int step = 0; step < steps(level); step++) {
                line.add(key(circle, beat, halves[0][step] == null ? halves[1][step] : halves[0][step]));
            }
        }
        int sum = 0;
        for (int i = 0; i < line.size(); i++) {
            sum += Math.abs(line.get(i) - line.get((i + 1) % line.size()));
        }
        return sum;
    }

    private int choice(int circle, int level) {
        if (!in(circle, 0, 3) || !in(level, 0, 3)) {
            return BAD;
        }
        int best = NO;
        int least = Integer.MAX_VALUE;
        for (int figures = 0; figures <= 555; figures++) {
            int sum = leaps(circle, level, figures);
            if (sum >= 0 && sum < least) {
                least = sum;
                best = figures;
            }
        }
        return best;
    }

    private int sheet(int s, int n) {
        if (!in(s, 0, 1) || n > 16) {
            return BAD;
        }
        if (n < 0) {
            return SIZE;
        }
        sheets[s] = new byte[n];
        return n;
    }

    private int mark(int s, int place, int v) {
        if (!in(s, 0, 1)) {
            return BAD;
        }
        if (sheets[s] == null) {
            return NOTHING;
        }
        if (!in(place, 0, sheets[s].length - 1)) {
            return INDEX;
        }
        int was = sheets[s][place];
        sheets[s][place] = (byte) v;
        return was;
    }

    private int copy(int from, int place, int to, int at, int many) {
        if (!in(from, 0, 1) || !in(to, 0, 1)) {
            return BAD;
        }
        if (sheets[from] == null || sheets[to] == null) {
            return NOTHING;
        }
        try {
            System.arraycopy(sheets[from].clone(), place, sheets[to], at, many);
        } catch (IndexOutOfBoundsException e) {
            return INDEX;
        }
        return many;
    }

    private int count(int what) {
        int sum = 0;
        switch (what) {
            case 0: return circles.stream().mapToInt(List::size).sum();
            case 1: return (int) circles.stream().flatMap(List::stream).filter(b -> b.length() > 1).count();
            case 2:
                for (int level = 0; level < 4; level++) {
                    for (int figure = 0; figure < 6; figure++) {
                        sum += wrong(level, figure) == NONE ? 1 : 0;
                    }
                }
                return sum;
            case 3: return parts.size();
            case 4: return rounds().size();
            case 5: return signals.size();
            case 6: return tape.length();
            default: return BAD;
        }
    }
}
