/** What the tests share: answers that are due, and tunes put on the tape. */
final class Check {
    private final String name;
    private int passed = 0;
    private int failed = 0;

    Check(String name) {
        this.name = name;
    }

    void due(String call, int got, int want) {
        if (got == want) {
            passed++;
            return;
        }
        failed++;
        System.out.println(name + ": " + call + " answered " + got + ", due is " + want);
    }

    void holds(String what, boolean does) {
        due(what, does ? 1 : 0, 1);
    }

    void end() {
        System.out.println(name);
        System.out.println(passed + " passed, " + failed + " failed");
        if (failed > 0) {
            System.exit(1);
        }
    }

    /** Puts a text of at most 64 bytes on an empty tape. */
    static void tape(GongHouse x, String text) {
        for (int[] told : Calls.ofTape(text)) {
            Calls.call(x, told);
        }
    }

    static int tune(GongHouse x, int circle, String text) {
        tape(x, text);
        return x.tune(circle);
    }

    /** Tells a half of a figure step by step: a digit, a letter a..d for -1..-4, or - for nothing. */
    static void half(GongHouse x, int level, int figure, int half, String row) {
        for (int step = 0; step < row.length(); step++) {
            x.strike(level, figure, half, step, shift(row.charAt(step)));
        }
    }

    static int shift(char sign) {
        if (sign == '-') {
            return GongHouse.NONE;
        }
        return sign >= 'a' ? 'a' - 1 - sign : sign - '0';
    }
}
