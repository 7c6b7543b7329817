/** Promises 1 to 6: a new object, the tape, and circles. */
public final class CirclesTest {
    private static final int BAD = GongHouse.BAD, NO = GongHouse.NO, FULL = GongHouse.FULL, NONE = GongHouse.NONE;
    private static final Check check = new Check("CirclesTest");

    public static void main(String[] args) {
        aNewObject();
        feedAndTrim();
        tunesThatAre();
        faults();
        beatsTooFewOrMany();
        tapeIsUsedUp();
        tones();
        toldRefuses();
        kinds();
        check.end();
    }

    private static void aNewObject() {
        GongHouse x = new GongHouse();
        check.due("new count(0)", x.count(0), 32);
        for (int what = 1; what <= 6; what++) {
            check.due("new count(" + what + ")", x.count(what), 0);
        }
        for (int circle = 0; circle < 4; circle++) {
            check.due("new told note", x.told(circle, 7, 0), NONE);
            check.due("new told tone", x.told(circle, 7, 1), 0);
            check.due("new told gong", x.told(circle, 7, 2), NONE);
            check.due("new told beyond", x.told(circle, 8, 0), BAD);
        }
        for (int level = 0; level < 4; level++) {
            for (int figure = 0; figure < 6; figure++) {
                check.due("new wrong", x.wrong(level, figure), 0);
            }
            for (int which = 0; which < 3; which++) {
                check.due("new use", x.use(level, which, 0), 0);
            }
        }
        check.due("new ticks", x.ticks(), 0);
        check.due("new mark(0)", x.mark(0, 0, 1), GongHouse.NOTHING);
        check.due("new mark(1)", x.mark(1, 0, 1), GongHouse.NOTHING);
    }

    private static void feedAndTrim() {
        GongHouse x = new GongHouse();
        for (int fed = 1; fed <= 5; fed++) {
            check.due("feed", x.feed(0, 0, 0), 12 * fed);
        }
        check.due("feed to 72", x.feed(0, 0, 0), FULL);
        check.due("count(6) behind FULL", x.count(6), 60);
        check.due("trim(61)", x.trim(61), BAD);
        check.due("trim(-1)", x.trim(-1), BAD);
        check.due("trim(60)", x.trim(60), 60);
        check.due("trim(53)", x.trim(53), 53);
        check.due("feed to 65", x.feed(0, 0, 0), FULL);
        check.due("trim(52)", x.trim(52), 52);
        check.due("feed to 64", x.feed(0, 0, 0), 64);
        check.due("trim(0)", x.trim(0), 0);
        check.due("trim(1)", x.trim(1), BAD);
        check.due("count(6)", x.count(6), 0);
        // The highest byte comes first: 1 2 3 4, then 5 6 7 ., then 1G 2g
        check.due("feed", x.feed(0x31323334, 0x3536372E, 0x31473267), 12);
        check.due("tune", x.tune(3), 10);
        check.due("told beat 0", x.told(3, 0, 0), 0);
        check.due("told beat 6", x.told(3, 6, 0), 6);
        check.due("told beat 8", x.told(3, 8, 2), 1);
        check.due("told beat 9", x.told(3, 9, 2), 0);
    }

    private static void tunesThatAre() {
        GongHouse x = new GongHouse();
        check.due("tune ..", Check.tune(x, 0, ".."), 2);
        check.due("tune .G.g.H.L", Check.tune(x, 0, ".G.g.H.L"), 4);
        check.due("kind G", x.told(0, 0, 2), 1);
        check.due("kind g", x.told(0, 1, 2), 0);
        check.due("kind H", x.told(0, 2, 2), 2);
        check.due("kind L", x.told(0, 3, 2), 3);
        check.due("note .L", x.told(0, 3, 0), NONE);
        check.due("tune 1[2G.3L]37", Check.tune(x, 0, "1[2G.3L]37"), 11);
        for (int time = 0; time < 3; time++) {
            check.due("[ beat 0", x.told(0, 1 + 3 * time, 0), 1);
            check.due("[ gong 0", x.told(0, 1 + 3 * time, 2), 1);
            check.due("[ beat 1", x.told(0, 2 + 3 * time, 0), NONE);
            check.due("[ gong 1", x.told(0, 2 + 3 * time, 2), NONE);
            check.due("[ beat 2", x.told(0, 3 + 3 * time, 0), 2);
            check.due("[ gong 2", x.told(0, 3 + 3 * time, 2), 3);
        }
        check.due("behind ]", x.told(0, 10, 0), 6);
        check.due("two brackets", Check.tune(x, 0, "[1]2[2]9"), 11);
        check.due("two brackets, last", x.told(0, 10, 0), 1);
        check.due("64 bytes", Check.tune(x, 0, "1G2g3H4L5G6g7H.L".repeat(4)), 32);
        check.due("64 bytes, gongs", x.count(1), 32);
        check.due("fewer beats", Check.tune(x, 0, "12"), 2);
        check.due("fewer beats, gongs", x.count(1), 0);
        check.due("fewer beats, all", x.count(0), 26);
    }

    private static void faults() {
        GongHouse x = new GongHouse();
        Check.tune(x, 1, "1G23");
        String[] texts = {"", "0", "8", "9", "G1", "]2", "12G", "1GG2", "12GH", "[", "[1", "[1G", "[1]", "[1]1", "[1]0", "[1]2G",
            "[1]2]", "[]2", "[[1]2]2", "[G]2", "[1]G", "1a", "1 2", "12\u00b1", "12\0", "[1]22", "[1]28", "]", "12]", "[1]a", "[12", "1[2][3]2", "1[G]2", "1[2]2G", "1.[2]", "1G[2g]2L"};
        int[] places = {0, 0, 0, 0, 0, 0, NONE, 2, 3, 1, 2, 3, 3, 3, 3, 4,
            4, 1, 1, 1, 3, 1, 1, 2, 2, NONE, 4, 0, 2, 3, 3, 4, 2, 5, 5, 7};
        for (int i = 0; i < texts.length; i++) {
            int got = Check.tune(x, 1, texts[i]);
            if (places[i] == NONE) {
                check.holds("no fault in " + texts[i], got > 0);
                Check.tune(x, 1, "1G23");
            } else {
                check.due("fault in " + texts[i], got, -100 - places[i]);
                check.due("the circle stays", x.told(1, 0, 2), 1);
                check.due("the beats stay", x.told(1, 3, 0), BAD);
            }
        }
        check.due("fault behind too many beats", Check.tune(x, 1, "[1234567]9[1234567]9G"), -120);
        check.due("the end at 64", Check.tune(x, 1, "[" + "1".repeat(63)), -164);
        check.due("fault at 63", Check.tune(x, 1, "1".repeat(63) + "8"), -163);
    }

    private static void beatsTooFewOrMany() {
        GongHouse x = new GongHouse();
        Check.tune(x, 2, "123");
        check.due("one beat", Check.tune(x, 2, "1G"), NO);
        check.due("two beats", Check.tune(x, 0, "[1]2"), 2);
        check.due("33 beats", Check.tune(x, 2, "1".repeat(33)), NO);
        check.due("32 beats", Check.tune(x, 0, "1".repeat(32)), 32);
        check.due("64 beats", Check.tune(x, 2, "1".repeat(64)), NO);
        check.due("33 beats by [", Check.tune(x, 2, "[1234567.]41"), NO);
        check.due("32 beats by [", Check.tune(x, 0, "[1234567.]4"), 32);
        check.due("32 beats, last", x.told(0, 31, 1), 6);
        check.due("549 beats", Check.tune(x, 2, "[" + "1".repeat(61) + "]9"), NO);
        check.due("gong on the 33rd", Check.tune(x, 2, "1".repeat(33) + "G"), NO);
        check.due("[ from the 33rd on", Check.tune(x, 2, "1".repeat(40) + "[2G]9"), NO);
        check.due("the circle stays", x.told(2, 2, 0), 2);
        check.due("its beats stay", x.told(2, 3, 0), BAD);
    }

    private static void tapeIsUsedUp() {
        GongHouse x = new GongHouse();
        Check.tune(x, 0, "12");
        check.due("used up by a tune", x.count(6), 0);
        Check.tune(x, 0, "1x");
        check.due("used up by a fault", x.count(6), 0);
        Check.tune(x, 0, "1");
        check.due("used up by NO", x.count(6), 0);
        check.due("empty tape", x.tune(0), -100);
        check.due("bad circle, empty tape", x.tune(4), BAD);
        Check.tape(x, "7x");
        check.due("bad circle ahead of a fault", x.tune(-1), BAD);
        check.due("used up by a bad circle and a fault", x.count(6), 0);
        Check.tape(x, "7");
        check.due("bad circle ahead of NO", x.tune(4), BAD);
        check.due("used up by a bad circle and NO", x.count(6), 0);
        Check.tape(x, "67");
        check.due("bad circle", x.tune(4), BAD);
        check.due("used up by a bad circle", x.count(6), 0);
        check.due("nothing is left to read", x.tune(0), -100);
        check.due("the circle stays", x.told(0, 1, 0), 1);
        check.due("feed from the beginning", x.feed(0, 0, 0), 12);
    }

    private static void tones() {
        GongHouse x = new GongHouse();
        Check.tune(x, 0, "..3.5..");
        int[] tones = {4, 4, 2, 2, 4, 4, 4};
        for (int beat = 0; beat < tones.length; beat++) {
            check.due("tone of beat " + beat, x.told(0, beat, 1), tones[beat]);
        }
        Check.tune(x, 0, ".7");
        check.due("round the circle", x.told(0, 0, 1), 6);
        Check.tune(x, 0, "...");
        check.due("none has a note", x.told(0, 1, 1), 0);
    }

    private static void toldRefuses() {
        GongHouse x = new GongHouse();
        Check.tune(x, 1, "1G2");
        check.due("told(-1)", x.told(-1, 0, 0), BAD);
        check.due("told(4)", x.told(4, 0, 0), BAD);
        check.due("told beat -1", x.told(1, -1, 0), BAD);
        check.due("told beat 2", x.told(1, 2, 0), BAD);
        check.due("told what -1", x.told(1, 0, -1), BAD);
        check.due("told what 3", x.told(1, 0, 3), BAD);
        check.due("told without a gong", x.told(1, 1, 2), NONE);
    }

    private static void kinds() {
        GongHouse x = new GongHouse();
        Check.tune(x, 2, "1g2G3H4L5");
        int[][] due = {{1, 0, 0, 0}, {1, 1, 0, 0}, {1, 0, 1, 0}, {1, 0, 1, 1}, {NO, NO, NO, NO}};
        for (int beat = 0; beat < 5; beat++) {
            for (int kind = 0; kind < 4; kind++) {
                check.due("isOf(2, " + beat + ", " + kind + ")", x.isOf(2, beat, kind), due[beat][kind]);
            }
        }
        check.due("isOf beat 5", x.isOf(2, 5, 0), BAD);
        check.due("isOf beat -1", x.isOf(2, -1, 0), BAD);
        check.due("isOf circle 4", x.isOf(4, 0, 0), BAD);
        check.due("isOf circle -1", x.isOf(-1, 0, 0), BAD);
        check.due("isOf kind 4, BAD ahead of NO", x.isOf(2, 4, 4), BAD);
        check.due("isOf kind -1", x.isOf(2, 0, -1), BAD);
    }
}
