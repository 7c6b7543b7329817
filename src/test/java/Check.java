/** What the tests share: answers that are due, and tunes put on the tape. */
final class Check {
    private final String name;
    private int passed = 0;
    private int failed = 0;

    Check(String name) {
        this.name = name;
    }

    void due(String call, int got, int want) {
        if (got == want) {
            passed++;
            return;
        }
        failed++;
        System.out.println(name + ": " + call + " answered " + got + ", due is " + want);
    }

    void holds(String what, boolean does) {
        due(what, does ? 1 : 0, 1);
    }

    void end() {
        System.out.println(name);
        System.out.println(passed + " passed, " + failed + " failed");
        if (failed > 0) {
            System.exit(1);
        }
    }

    /** Puts a text of at most 64 bytes on an empty tape. */
    static void tape(GongHouse x, String text) {
        int head = text.length() % 12;
        if (head > 0) {
            feedFrom(x, text, 0);
            x.trim(head);
        }
        for (int at = head; at < text.length(); at += 12) {
            feedFrom(x, text, at);
        }
    }

    static int tune(GongHouse x, int circle, String text) {
        tape(x, text);
        return x.tune(circle);
    }

    private static void feedFrom(GongHouse x, String text, int at) {
        x.feed(word(text, at), word(text, at + 4), word(text, at + 8));
    }

    static int word(String text, int at) {
        int word = 0;
        for (int i = at; i < at + 4; i++) {
            word = word << 8 | (i < text.length() ? text.charAt(i) & 255 : 0);
        }
        return word;
    }

    /** Tells a half of a figure step by step: a digit, a letter a..d for -1..-4, or - for nothing. */
    static void half(GongHouse x, int level, int figure, int half, String row) {
        for (int step = 0; step < row.length(); step++) {
            x.strike(level, figure, half, step, shift(row.charAt(step)));
        }
    }

    private static int shift(char sign) {
        if (sign == '-') {
            return GongHouse.NONE;
        }
        return sign >= 'a' ? 'a' - 1 - sign : sign - '0';
    }
}
