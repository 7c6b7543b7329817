import java.util.ArrayList;
import java.util.Arrays;
import java.util.List;

/** The document's calls by number, in the order of its face. */
final class Calls {
    static final int FEED = 0, TRIM = 1, TUNE = 2, TOLD = 3, IS_OF = 4, STRIKE = 5, LAY = 6, TOGETHER = 7, WRONG = 8, USE = 9,
        PART = 10, SIGNAL = 11, DROP = 12, ROUND = 13, PLAYS = 14, DAMPS = 15, STRIKES = 16, TICKS = 17, LEAPS = 18, CHOICE = 19,
        SHEET = 20, MARK = 21, COPY = 22, COUNT = 23;
    private static final String[] NAMES = {"feed", "trim", "tune", "told", "isOf", "strike", "lay", "together", "wrong", "use",
        "part", "signal", "drop", "round", "plays", "damps", "strikes", "ticks", "leaps", "choice", "sheet", "mark", "copy", "count"};

    private Calls() {
    }

    static String text(int method, int[] a) {
        return NAMES[method] + Arrays.toString(a);
    }

    static int call(GongHouse x, int method, int[] a) {
        switch (method) {
            case FEED: return x.feed(a[0], a[1], a[2]);
            case TRIM: return x.trim(a[0]);
            case TUNE: return x.tune(a[0]);
            case TOLD: return x.told(a[0], a[1], a[2]);
            case IS_OF: return x.isOf(a[0], a[1], a[2]);
            case STRIKE: return x.strike(a[0], a[1], a[2], a[3], a[4]);
            case LAY: return x.lay(a[0], a[1], a[2], a[3]);
            case TOGETHER: return x.together(a[0], a[1], a[2], a[3]);
            case WRONG: return x.wrong(a[0], a[1]);
            case USE: return x.use(a[0], a[1], a[2]);
            case PART: return x.part(a[0], a[1], a[2]);
            case SIGNAL: return x.signal(a[0], a[1]);
            case DROP: return x.drop();
            case ROUND: return x.round(a[0], a[1]);
            case PLAYS: return x.plays(a[0], a[1], a[2], a[3]);
            case DAMPS: return x.damps(a[0], a[1], a[2], a[3]);
            case STRIKES: return x.strikes(a[0], a[1]);
            case TICKS: return x.ticks();
            case LEAPS: return x.leaps(a[0], a[1], a[2]);
            case CHOICE: return x.choice(a[0], a[1]);
            case SHEET: return x.sheet(a[0], a[1]);
            case MARK: return x.mark(a[0], a[1], a[2]);
            case COPY: return x.copy(a[0], a[1], a[2], a[3], a[4]);
            default: return x.count(a[0]);
        }
    }

    /** The feeds and trims, each as a method and its numbers, that put a text of at most 64 bytes on an empty tape. */
    static List<int[]> ofTape(String text) {
        List<int[]> calls = new ArrayList<>();
        int head = text.length() % 12;
        if (head > 0) {
            calls.add(feedFrom(text, 0));
            calls.add(new int[] {TRIM, head});
        }
        for (int at = head; at < text.length(); at += 12) {
            calls.add(feedFrom(text, at));
        }
        return calls;
    }

    private static int[] feedFrom(String text, int at) {
        return new int[] {FEED, word(text, at), word(text, at + 4), word(text, at + 8)};
    }

    private static int word(String text, int at) {
        int word = 0;
        for (int i = at; i < at + 4; i++) {
            word = word << 8 | (i < text.length() ? text.charAt(i) & 255 : 0);
        }
        return word;
    }

    /** Makes a call that is told as its method and its numbers. */
    static int call(GongHouse x, int[] told) {
        return call(x, told[0], Arrays.copyOfRange(told, 1, told.length));
    }
}
