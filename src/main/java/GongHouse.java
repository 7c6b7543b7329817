import java.util.Arrays;

/**
 * Bronze in halves: circles of beats with gongs, figures of two interlocking halves,
 * pieces of rounds at levels, and the figures whose line leaps least.
 */
public final class GongHouse {
    public static final int BAD = -1000000001, NO = -1000000002, FULL = -1000000003, NONE = -1000000005, NOTHING = -1000000011, INDEX = -1000000013, SIZE = -1000000014;

    private static final int CIRCLES = 4;
    private static final int LEAST_BEATS = 2;
    private static final int MOST_BEATS = 32;
    private static final int FIRST_BEATS = 8;
    private static final int TONES = 7;
    private static final int KINDS = 4;
    /** The kind that each kind of gong stands under: all are gongs, a lying one is a hanging one. */
    private static final int[] KIND_ABOVE = {NONE, 0, 0, 2};

    private static final int LEVELS = 4;
    private static final int FIGURES = 6;
    private static final int HALVES = 2;
    private static final int MAIN = 0;
    private static final int FARTHEST_SHIFT = 4;
    private static final int TURNS = 3;
    private static final int HIGHEST_KEY = 9;
    private static final int BEND = 5;

    private static final int MOST_PARTS = 16;
    private static final int MOST_TIMES = 9;
    private static final int MOST_ROUNDS = 144;
    private static final int MOST_SIGNALS = 20;
    private static final int BEAT_TICKS = 32;
    private static final int PLAYERS = 4;
    private static final int SKELETON = 0;
    private static final int GONG_PLAYER = 3;

    private static final int SHEETS = 2;
    private static final int MOST_PLACES = 16;
    private static final int TAPE_BYTES = 64;
    private static final int FED_BYTES = 12;
    private static final int FAULT_BASE = -100;

    private final Tape tape = new Tape();
    private final TuneReader reader = new TuneReader();
    private final Circle[] circles = new Circle[CIRCLES];
    private final Level[] levels = new Level[LEVELS];
    private final Piece piece = new Piece();
    private final Walk walk = new Walk();
    private final LineTable lines = new LineTable();
    private final Sheet[] sheets = new Sheet[SHEETS];

    public GongHouse() {
        for (int c = 0; c < CIRCLES; c++) {
            circles[c] = new Circle();
        }
        for (int l = 0; l < LEVELS; l++) {
            levels[l] = new Level(2 << l);
        }
        for (int s = 0; s < SHEETS; s++) {
            sheets[s] = new Sheet();
        }
    }

    // ---- circles

    public int feed(int a, int b, int c) {
        if (tape.length + FED_BYTES > TAPE_BYTES) {
            return FULL;
        }
        tape.addWord(a);
        tape.addWord(b);
        tape.addWord(c);
        return tape.length;
    }

    public int trim(int n) {
        if (n < 0 || n > tape.length) {
            return BAD;
        }
        tape.length = n;
        return n;
    }

    public int tune(int circle) {
        int fault = reader.faultOf(tape);
        // A tune uses the tape up whatever it answers, a bad circle included.
        tape.length = 0;
        if (!isBelow(circle, CIRCLES)) {
            return BAD;
        }
        if (fault != NONE) {
            return FAULT_BASE - fault;
        }
        if (reader.beats < LEAST_BEATS || reader.beats > MOST_BEATS) {
            return NO;
        }
        circles[circle].become(reader);
        return reader.beats;
    }

    public int told(int circle, int beat, int what) {
        if (!hasBeat(circle, beat)) {
            return BAD;
        }
        switch (what) {
            case 0: return circles[circle].notes[beat];
            case 1: return circles[circle].tones[beat];
            case 2: return circles[circle].gongs[beat];
            default: return BAD;
        }
    }

    public int isOf(int circle, int beat, int kind) {
        if (!hasBeat(circle, beat) || !isBelow(kind, KINDS)) {
            return BAD;
        }
        int gong = circles[circle].gongs[beat];
        if (gong == NONE) {
            return NO;
        }
        return standsUnder(gong, kind) ? 1 : 0;
    }

    // ---- figures

    public int strike(int level, int figure, int half, int step, int shift) {
        if (!hasStep(level, figure, step) || !isBelow(half, HALVES)) {
            return BAD;
        }
        if (shift != NONE && !isShift(shift)) {
            return BAD;
        }
        int[] row = levels[level].figures[figure].rowOf(half);
        int before = row[step];
        row[step] = shift;
        return before;
    }

    public int lay(int level, int figure, int half, int sheet) {
        if (!hasFigure(level, figure) || !isBelow(half, HALVES) || !isBelow(sheet, SHEETS)) {
            return BAD;
        }
        if (sheets[sheet].isMissing()) {
            return NOTHING;
        }
        if (sheets[sheet].places > levels[level].steps) {
            return INDEX;
        }
        Figure laid = levels[level].figures[figure];
        laid.takeRow(half, sheets[sheet]);
        return laid.strikesOf(half);
    }

    public int together(int level, int figure, int step, int on) {
        if (!hasStep(level, figure, step) || !isBelow(on, 2)) {
            return BAD;
        }
        boolean[] may = levels[level].figures[figure].mayBoth;
        int before = may[step] ? 1 : 0;
        may[step] = on == 1;
        return before;
    }

    public int wrong(int level, int figure) {
        if (!hasFigure(level, figure)) {
            return BAD;
        }
        return levels[level].figures[figure].firstWrongStep();
    }

    public int use(int level, int which, int figure) {
        if (!hasFigure(level, figure) || !isBelow(which, TURNS)) {
            return BAD;
        }
        int before = levels[level].used[which];
        levels[level].used[which] = figure;
        return before;
    }

    // ---- pieces

    public int part(int circle, int times, int level) {
        if (!isBelow(circle, CIRCLES) || times < 1 || times > MOST_TIMES || !isLevelOrNone(level)) {
            return BAD;
        }
        if (piece.parts >= MOST_PARTS) {
            return FULL;
        }
        piece.addPart(circle, times, level);
        return piece.parts;
    }

    public int signal(int round, int level) {
        if (!isBelow(round, MOST_ROUNDS) || !isLevelOrNone(level)) {
            return BAD;
        }
        int before = piece.signalLevels[round];
        if (before == NONE && level != NONE && piece.signals >= MOST_SIGNALS) {
            return FULL;
        }
        piece.setSignal(round, level);
        return before;
    }

    public int drop() {
        int had = piece.parts;
        piece.clear();
        return had;
    }

    public int round(int round, int what) {
        if (!walk.reaches(piece, circles, round)) {
            return BAD;
        }
        switch (what) {
            case 0: return walk.circle;
            case 1: return walk.level;
            case 2: return walk.part;
            case 3: return walk.tick;
            default: return BAD;
        }
    }

    public int plays(int player, int round, int beat, int step) {
        if (!isBelow(player, PLAYERS) || !goesTo(round, beat, step)) {
            return BAD;
        }
        Circle circle = circles[walk.circle];
        if (isHalfPlayer(player)) {
            return keyAt(circle, levels[walk.level], player - 1, beat, step);
        }
        if (step > 0) {
            return NONE;
        }
        return player == SKELETON ? circle.notes[beat] : circle.gongs[beat];
    }

    public int damps(int player, int round, int beat, int step) {
        if (!isHalfPlayer(player) || !goesTo(round, beat, step)) {
            return BAD;
        }
        int struck = keyAt(circles[walk.circle], levels[walk.level], player - 1, beat, step);
        int sounding = keyAhead(circles[walk.circle], levels[walk.level], player - 1, beat, step);
        return struck == NONE || struck == sounding ? NONE : sounding;
    }

    public int strikes(int player, int round) {
        if (!isBelow(player, PLAYERS) || !walk.reaches(piece, circles, round)) {
            return BAD;
        }
        Circle circle = circles[walk.circle];
        if (player == SKELETON) {
            return circle.countNotes();
        }
        if (player == GONG_PLAYER) {
            return circle.countGongs();
        }
        return halfStrikes(circle, levels[walk.level], player - 1);
    }

    public int ticks() {
        // No round is NONE: the walk goes to the piece's end.
        walk.reaches(piece, circles, NONE);
        return walk.tick;
    }

    // ---- leaps

    public int leaps(int circle, int level, int figures) {
        if (!isBelow(circle, CIRCLES) || !isBelow(level, LEVELS) || figures < 0) {
            return BAD;
        }
        int same = figures / 100;
        int higher = figures / 10 % 10;
        int lower = figures % 10;
        if (!isBelow(same, FIGURES) || !isBelow(higher, FIGURES) || !isBelow(lower, FIGURES)) {
            return BAD;
        }
        Level at = levels[level];
        if (!at.figures[same].isRight() || !at.figures[higher].isRight() || !at.figures[lower].isRight()) {
            return NO;
        }
        lines.learn(at.figures[same], same);
        lines.learn(at.figures[higher], higher);
        lines.learn(at.figures[lower], lower);
        return lines.leapsWith(circles[circle], same, higher, lower);
    }

    public int choice(int circle, int level) {
        if (!isBelow(circle, CIRCLES) || !isBelow(level, LEVELS)) {
            return BAD;
        }
        for (int figure = 0; figure < FIGURES; figure++) {
            Figure asked = levels[level].figures[figure];
            lines.usable[figure] = asked.isRight();
            if (lines.usable[figure]) {
                lines.learn(asked, figure);
            }
        }
        return lines.leastLeaping(circles[circle]);
    }

    // ---- sheets

    public int sheet(int s, int n) {
        if (!isBelow(s, SHEETS) || n > MOST_PLACES) {
            return BAD;
        }
        if (n < 0) {
            return SIZE;
        }
        sheets[s].lengthen(n);
        return n;
    }

    public int mark(int s, int place, int v) {
        if (!isBelow(s, SHEETS)) {
            return BAD;
        }
        if (sheets[s].isMissing()) {
            return NOTHING;
        }
        if (!isBelow(place, sheets[s].places)) {
            return INDEX;
        }
        int before = sheets[s].bytes[place];
        sheets[s].bytes[place] = (byte) v;
        return before;
    }

    public int copy(int from, int place, int to, int at, int many) {
        if (!isBelow(from, SHEETS) || !isBelow(to, SHEETS)) {
            return BAD;
        }
        if (sheets[from].isMissing() || sheets[to].isMissing()) {
            return NOTHING;
        }
        if (!sheets[from].holds(place, many) || !sheets[to].holds(at, many)) {
            return INDEX;
        }
        System.arraycopy(sheets[from].bytes, place, sheets[to].bytes, at, many);
        return many;
    }

    public int count(int what) {
        switch (what) {
            case 0: return allBeats();
            case 1: return allGongs();
            case 2: return allRight();
            case 3: return piece.parts;
            case 4: return piece.countRounds();
            case 5: return piece.signals;
            case 6: return tape.length;
            default: return BAD;
        }
    }

    // ---- what may be asked for

    private static boolean isBelow(int number, int bound) {
        return number >= 0 && number < bound;
    }

    private static boolean isShift(int shift) {
        return shift >= -FARTHEST_SHIFT && shift <= FARTHEST_SHIFT;
    }

    private static boolean isLevelOrNone(int level) {
        return level == NONE || isBelow(level, LEVELS);
    }

    private static boolean isHalfPlayer(int player) {
        return player > SKELETON && player < GONG_PLAYER;
    }

    private boolean hasBeat(int circle, int beat) {
        return isBelow(circle, CIRCLES) && isBelow(beat, circles[circle].beats);
    }

    private static boolean hasFigure(int level, int figure) {
        return isBelow(level, LEVELS) && isBelow(figure, FIGURES);
    }

    private boolean hasStep(int level, int figure, int step) {
        return hasFigure(level, figure) && isBelow(step, levels[level].steps);
    }

    /** Walks to a round; whether it has such a beat, and at its level such a step. */
    private boolean goesTo(int round, int beat, int step) {
        return walk.reaches(piece, circles, round)
            && isBelow(beat, circles[walk.circle].beats)
            && isBelow(step, levels[walk.level].steps);
    }

    private static boolean standsUnder(int gong, int kind) {
        int above = gong;
        for (int climbed = 0; climbed < KINDS && isBelow(above, KINDS); climbed++) {
            if (above == kind) {
                return true;
            }
            above = KIND_ABOVE[above];
        }
        return false;
    }

    // ---- what the halves strike

    private static int keyOf(int tone, int shift) {
        int key = tone + shift;
        if (key < 0) {
            return key + BEND;
        }
        return key > HIGHEST_KEY ? key - BEND : key;
    }

    private static int keyAt(Circle circle, Level level, int half, int beat, int step) {
        int shift = level.figureFor(circle, beat).rowOf(half)[step];
        return shift == NONE ? NONE : keyOf(circle.tones[beat], shift);
    }

    /** The key that a half struck last in a beat ahead of a step. */
    private static int keyAhead(Circle circle, Level level, int half, int beat, int step) {
        for (int ahead = step - 1; ahead >= 0; ahead--) {
            int key = keyAt(circle, level, half, beat, ahead);
            if (key != NONE) {
                return key;
            }
        }
        return NONE;
    }

    private static int halfStrikes(Circle circle, Level level, int half) {
        int sum = 0;
        for (int beat = 0; beat < circle.beats; beat++) {
            sum += level.figureFor(circle, beat).strikesOf(half);
        }
        return sum;
    }

    // ---- sums over all

    private int allBeats() {
        int sum = 0;
        for (int c = 0; c < CIRCLES; c++) {
            sum += circles[c].beats;
        }
        return sum;
    }

    private int allGongs() {
        int sum = 0;
        for (int c = 0; c < CIRCLES; c++) {
            sum += circles[c].countGongs();
        }
        return sum;
    }

    private int allRight() {
        int sum = 0;
        for (int l = 0; l < LEVELS; l++) {
            sum += levels[l].countRight();
        }
        return sum;
    }

    /** How many of a row's first entries tell something. */
    private static int countTold(int[] row, int many) {
        int sum = 0;
        for (int i = 0; i < many && i < row.length; i++) {
            if (row[i] != NONE) {
                sum++;
            }
        }
        return sum;
    }

    /** Bytes that wait to be read as a tune. */
    private static final class Tape {
        final byte[] bytes = new byte[TAPE_BYTES];
        int length = 0;

        void addWord(int word) {
            for (int bits = 24; bits >= 0 && length < TAPE_BYTES; bits -= 8) {
                bytes[length] = (byte) (word >> bits);
                length++;
            }
        }
    }

    /** Reads a tape byte by byte into rows of its own, so that a faulty tune touches no circle. */
    private static final class TuneReader {
        final int[] notes = new int[MOST_BEATS];
        final int[] gongs = new int[MOST_BEATS];
        /** Counted on beyond the rows' end, so that too long a tune is still looked at for faults. */
        int beats = 0;
        /** The beat with which an open bracket begins, or NONE. */
        private int opened = NONE;
        private boolean awaitsTimes = false;
        private boolean awaitsGong = false;

        /** The place of the first fault, or NONE. */
        int faultOf(Tape tape) {
            beats = 0;
            opened = NONE;
            awaitsTimes = false;
            awaitsGong = false;
            for (int place = 0; place < tape.length && place < TAPE_BYTES; place++) {
                if (!takes(tape.bytes[place])) {
                    return place;
                }
            }
            return beats > 0 && opened == NONE ? NONE : tape.length;
        }

        private boolean takes(int sign) {
            if (awaitsTimes) {
                return takesTimes(sign);
            }
            if (sign == '[') {
                return takesOpening();
            }
            if (sign == ']') {
                return takesClosing();
            }
            if (sign == '.') {
                return takesBeat(NONE);
            }
            if (sign >= '1' && sign <= '7') {
                return takesBeat(sign - '1');
            }
            return takesGong(kindOf(sign));
        }

        private static int kindOf(int sign) {
            switch (sign) {
                case 'g': return 0;
                case 'G': return 1;
                case 'H': return 2;
                case 'L': return 3;
                default: return NONE;
            }
        }

        private boolean takesBeat(int note) {
            addBeat(note, NONE);
            awaitsGong = true;
            return true;
        }

        private boolean takesGong(int kind) {
            if (!awaitsGong || kind == NONE) {
                return false;
            }
            if (beats >= 1 && beats <= MOST_BEATS) {
                gongs[beats - 1] = kind;
            }
            awaitsGong = false;
            return true;
        }

        private boolean takesOpening() {
            if (opened != NONE) {
                return false;
            }
            opened = beats;
            awaitsGong = false;
            return true;
        }

        private boolean takesClosing() {
            if (opened == NONE || opened == beats) {
                return false;
            }
            awaitsTimes = true;
            awaitsGong = false;
            return true;
        }

        private boolean takesTimes(int sign) {
            if (sign < '2' || sign > '9') {
                return false;
            }
            repeatFrom(opened, sign - '0');
            opened = NONE;
            awaitsTimes = false;
            return true;
        }

        private void repeatFrom(int start, int times) {
            int end = beats;
            for (int time = 1; time < times; time++) {
                for (int beat = start; beat < end; beat++) {
                    boolean kept = isBelow(beat, MOST_BEATS);
                    addBeat(kept ? notes[beat] : NONE, kept ? gongs[beat] : NONE);
                }
            }
        }

        private void addBeat(int note, int gong) {
            if (beats < MOST_BEATS) {
                notes[beats] = note;
                gongs[beats] = gong;
            }
            beats++;
        }
    }

    /** A skeleton tune that goes round, with its gongs. */
    private static final class Circle {
        final int[] notes = new int[MOST_BEATS];
        final int[] gongs = new int[MOST_BEATS];
        final int[] tones = new int[MOST_BEATS];
        /** Where the next beat's tone lies: 0 the same, 1 higher, 2 lower. */
        final int[] turns = new int[MOST_BEATS];
        int beats = FIRST_BEATS;

        Circle() {
            Arrays.fill(notes, NONE);
            Arrays.fill(gongs, NONE);
        }

        void become(TuneReader read) {
            beats = Math.min(read.beats, MOST_BEATS);
            System.arraycopy(read.notes, 0, notes, 0, beats);
            System.arraycopy(read.gongs, 0, gongs, 0, beats);
            setTones();
            setTurns();
        }

        private void setTones() {
            int tone = lastNote();
            for (int beat = 0; beat < beats; beat++) {
                if (notes[beat] != NONE) {
                    tone = notes[beat];
                }
                tones[beat] = tone;
            }
        }

        /** What sounds on from the circle's end into its beginning. */
        private int lastNote() {
            for (int beat = beats - 1; beat >= 0; beat--) {
                if (notes[beat] != NONE) {
                    return notes[beat];
                }
            }
            return 0;
        }

        private void setTurns() {
            for (int beat = 0; beat < beats; beat++) {
                int next = tones[beatBehind(beat)];
                turns[beat] = next == tones[beat] ? 0 : next > tones[beat] ? 1 : 2;
            }
        }

        int beatBehind(int beat) {
            return beat + 1 < beats ? beat + 1 : 0;
        }

        int countNotes() {
            return countTold(notes, beats);
        }

        int countGongs() {
            return countTold(gongs, beats);
        }
    }

    /** What the two halves strike in a beat. */
    private static final class Figure {
        final int[] main;
        final int[] other;
        final boolean[] mayBoth;

        Figure(int steps) {
            main = new int[steps];
            other = new int[steps];
            mayBoth = new boolean[steps];
            Arrays.fill(main, NONE);
            Arrays.fill(other, NONE);
        }

        int[] rowOf(int half) {
            return half == MAIN ? main : other;
        }

        void takeRow(int half, Sheet from) {
            int[] row = rowOf(half);
            for (int step = 0; step < row.length; step++) {
                boolean strikes = step < from.places && isShift(from.bytes[step]);
                row[step] = strikes ? from.bytes[step] : NONE;
            }
        }

        int strikesOf(int half) {
            return countTold(rowOf(half), rowOf(half).length);
        }

        int firstWrongStep() {
            for (int step = 0; step < main.length; step++) {
                boolean mainStrikes = main[step] != NONE;
                boolean otherStrikes = other[step] != NONE;
                if (mainStrikes == otherStrikes && !(mainStrikes && mayBoth[step])) {
                    return step;
                }
            }
            return NONE;
        }

        boolean isRight() {
            return firstWrongStep() == NONE;
        }

        /** The shift of the whole line, in which the main half goes ahead of the other. */
        int lineShift(int step) {
            return main[step] != NONE ? main[step] : other[step];
        }
    }

    /** The figures of one density, and which of them are used. */
    private static final class Level {
        final int steps;
        final Figure[] figures = new Figure[FIGURES];
        final int[] used = new int[TURNS];

        Level(int steps) {
            this.steps = steps;
            for (int figure = 0; figure < FIGURES; figure++) {
                figures[figure] = new Figure(steps);
            }
        }

        Figure figureFor(Circle circle, int beat) {
            return figures[used[circle.turns[beat]]];
        }

        int countRight() {
            int sum = 0;
            for (int figure = 0; figure < FIGURES; figure++) {
                if (figures[figure].isRight()) {
                    sum++;
                }
            }
            return sum;
        }
    }

    /** Parts one behind the other, and the signals given in their rounds. */
    private static final class Piece {
        final int[] partCircles = new int[MOST_PARTS];
        final int[] partTimes = new int[MOST_PARTS];
        final int[] partLevels = new int[MOST_PARTS];
        final int[] signalLevels = new int[MOST_ROUNDS];
        int parts = 0;
        int signals = 0;

        Piece() {
            Arrays.fill(signalLevels, NONE);
        }

        void addPart(int circle, int times, int level) {
            if (parts < MOST_PARTS) {
                partCircles[parts] = circle;
                partTimes[parts] = times;
                partLevels[parts] = level;
                parts++;
            }
        }

        void setSignal(int round, int level) {
            signalLevels[round] = level;
            signals = countTold(signalLevels, MOST_ROUNDS);
        }

        void clear() {
            parts = 0;
            signals = 0;
            Arrays.fill(signalLevels, NONE);
        }

        int countRounds() {
            int sum = 0;
            for (int part = 0; part < parts; part++) {
                sum += partTimes[part];
            }
            return sum;
        }
    }

    /** Goes through a piece round by round, and keeps what is found where it stops. */
    private static final class Walk {
        int circle = 0;
        int level = 0;
        int part = 0;
        int tick = 0;

        /** Whether the piece has such a round; if not, the walk stops behind its last one. */
        boolean reaches(Piece piece, Circle[] circles, int goal) {
            int round = 0;
            level = 0;
            tick = 0;
            for (part = 0; part < piece.parts; part++) {
                circle = piece.partCircles[part];
                level = toldOr(piece.partLevels[part], level);
                for (int time = 0; time < piece.partTimes[part] && round < MOST_ROUNDS; time++) {
                    if (round == goal) {
                        return true;
                    }
                    tick += circles[circle].beats * (BEAT_TICKS << level);
                    level = toldOr(piece.signalLevels[round], level);
                    round++;
                }
            }
            return false;
        }

        private static int toldOr(int told, int goingOn) {
            return told == NONE ? goingOn : told;
        }
    }

    /** What the whole line of each figure does over each tone; a beat adds nothing else to its leaps. */
    private static final class LineTable {
        private final int[] inner = new int[FIGURES * TONES];
        private final int[] firstKeys = new int[FIGURES * TONES];
        private final int[] lastKeys = new int[FIGURES * TONES];
        private final int[] chosen = new int[TURNS];
        final boolean[] usable = new boolean[FIGURES];

        void learn(Figure figure, int number) {
            int last = figure.main.length - 1;
            for (int tone = 0; tone < TONES; tone++) {
                int at = number * TONES + tone;
                inner[at] = innerLeaps(figure, tone);
                firstKeys[at] = keyOf(tone, figure.lineShift(0));
                lastKeys[at] = keyOf(tone, figure.lineShift(last));
            }
        }

        private static int innerLeaps(Figure figure, int tone) {
            int sum = 0;
            int key = keyOf(tone, figure.lineShift(0));
            for (int step = 1; step < figure.main.length; step++) {
                int next = keyOf(tone, figure.lineShift(step));
                sum += Math.abs(next - key);
                key = next;
            }
            return sum;
        }

        int leapsWith(Circle circle, int same, int higher, int lower) {
            chosen[0] = same;
            chosen[1] = higher;
            chosen[2] = lower;
            int sum = 0;
            int at = entryOf(circle, 0);
            for (int beat = 0; beat < circle.beats; beat++) {
                int next = entryOf(circle, circle.beatBehind(beat));
                sum += inner[at] + Math.abs(firstKeys[next] - lastKeys[at]);
                at = next;
            }
            return sum;
        }

        private int entryOf(Circle circle, int beat) {
            return chosen[circle.turns[beat]] * TONES + circle.tones[beat];
        }

        /** The first three of usable figures with the least leaps, as one number; NO, if none is usable. */
        int leastLeaping(Circle circle) {
            int best = NO;
            int least = Integer.MAX_VALUE;
            for (int three = 0; three < FIGURES * FIGURES * FIGURES; three++) {
                int same = three / (FIGURES * FIGURES);
                int higher = three / FIGURES % FIGURES;
                int lower = three % FIGURES;
                if (usable[same] && usable[higher] && usable[lower]) {
                    int sum = leapsWith(circle, same, higher, lower);
                    if (sum < least) {
                        least = sum;
                        best = 100 * same + 10 * higher + lower;
                    }
                }
            }
            return best;
        }
    }

    /** A row of bytes, or none. */
    private static final class Sheet {
        private static final int MISSING = -1;

        final byte[] bytes = new byte[MOST_PLACES];
        int places = MISSING;

        boolean isMissing() {
            return places == MISSING;
        }

        void lengthen(int many) {
            places = many;
            Arrays.fill(bytes, (byte) 0);
        }

        boolean holds(int from, int many) {
            return from >= 0 && many >= 0 && from <= places && many <= places - from;
        }
    }
}
