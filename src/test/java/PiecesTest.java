/** Promises 12 to 19: pieces, their rounds, and what is played in them. */
public final class PiecesTest {
    private static final int BAD = GongHouse.BAD, FULL = GongHouse.FULL, NONE = GongHouse.NONE;
    private static final Check check = new Check("PiecesTest");

    public static void main(String[] args) {
        parts();
        signals();
        signalsFull();
        drops();
        rounds();
        levelsGoOn();
        plays();
        turns();
        playsRefuses();
        damps();
        strikes();
        ticks();
        check.end();
    }

    private static void parts() {
        GongHouse x = new GongHouse();
        int[][] calls = {{-1, 1, 0}, {4, 1, 0}, {0, 0, 0}, {0, 10, 0}, {0, 1, -1}, {0, 1, 4}};
        for (int[] c : calls) {
            check.due("part refused", x.part(c[0], c[1], c[2]), BAD);
        }
        for (int part = 1; part <= 16; part++) {
            check.due("part", x.part(part % 4, 9, part % 2 == 0 ? NONE : 3), part);
        }
        check.due("part 17", x.part(0, 1, 0), FULL);
        check.due("BAD ahead of FULL", x.part(0, 0, 0), BAD);
        check.due("parts", x.count(3), 16);
        check.due("rounds", x.count(4), 144);
        check.due("the last round", x.round(143, 2), 15);
        check.due("beyond it", x.round(144, 2), BAD);
    }

    private static void signals() {
        GongHouse x = new GongHouse();
        check.due("signal beyond the rounds", x.signal(143, 3), NONE);
        check.due("signal again", x.signal(143, 0), 3);
        check.due("no signal any more", x.signal(143, NONE), 0);
        check.due("none was there", x.signal(143, NONE), NONE);
        check.due("signals", x.count(5), 0);
        check.due("signal(-1)", x.signal(-1, 0), BAD);
        check.due("signal(144)", x.signal(144, 0), BAD);
        check.due("signal level -1", x.signal(0, -1), BAD);
        check.due("signal level 4", x.signal(0, 4), BAD);
        check.due("signals stay none", x.count(5), 0);
        x.signal(0, 2);
        x.part(0, 3, NONE);
        check.due("signals stay with a part", x.count(5), 1);
        check.due("its round", x.round(0, 1), 0);
        check.due("behind it", x.round(1, 1), 2);
        check.due("goes on", x.round(2, 1), 2);
    }

    private static void signalsFull() {
        GongHouse x = new GongHouse();
        for (int round = 0; round < 20; round++) {
            check.due("signal", x.signal(round * 7, 1), NONE);
        }
        check.due("signal 21", x.signal(1, 1), FULL);
        check.due("BAD ahead of FULL", x.signal(1, 4), BAD);
        check.due("NONE is never FULL", x.signal(1, NONE), NONE);
        check.due("one that is there", x.signal(133, 3), 1);
        check.due("signals", x.count(5), 20);
        check.due("take one away", x.signal(0, NONE), 1);
        check.due("room again", x.signal(1, 1), NONE);
    }

    private static void drops() {
        GongHouse x = new GongHouse();
        check.due("drop nothing", x.drop(), 0);
        x.part(0, 2, 3);
        x.part(1, 2, NONE);
        x.signal(0, 1);
        check.due("drop", x.drop(), 2);
        check.due("no parts", x.count(3), 0);
        check.due("no rounds", x.count(4), 0);
        check.due("no signals", x.count(5), 0);
        check.due("no ticks", x.ticks(), 0);
        check.due("no signal there", x.signal(0, NONE), NONE);
        check.due("part anew", x.part(0, 1, NONE), 1);
        check.due("level 0 anew", x.round(0, 1), 0);
    }

    private static void rounds() {
        GongHouse x = new GongHouse();
        Check.tune(x, 2, "123");
        x.part(2, 2, 1);
        x.part(0, 1, 2);
        x.part(2, 1, NONE);
        int[][] due = {{2, 1, 0, 0}, {2, 1, 0, 192}, {0, 2, 1, 384}, {2, 2, 2, 1408}};
        for (int round = 0; round < 4; round++) {
            for (int what = 0; what < 4; what++) {
                check.due("round(" + round + ", " + what + ")", x.round(round, what), due[round][what]);
            }
        }
        check.due("ticks", x.ticks(), 1408 + 384);
        check.due("round(-1)", x.round(-1, 0), BAD);
        check.due("round(4)", x.round(4, 0), BAD);
        check.due("round(NONE)", x.round(NONE, 0), BAD);
        check.due("what -1", x.round(0, -1), BAD);
        check.due("what 4", x.round(0, 4), BAD);
        Check.tune(x, 2, "12345");
        check.due("another tune, other ticks", x.round(2, 3), 640);
    }

    private static void levelsGoOn() {
        GongHouse x = new GongHouse();
        x.part(0, 2, NONE);
        x.part(1, 3, 1);
        x.part(2, 2, NONE);
        x.signal(1, 3);
        x.signal(3, 2);
        x.signal(4, 0);
        x.signal(6, 3);
        int[] due = {0, 0, 1, 1, 2, 0, 0};
        for (int round = 0; round < due.length; round++) {
            check.due("level of round " + round, x.round(round, 1), due[round]);
        }
        x.signal(0, 2);
        check.due("behind a signal", x.round(1, 1), 2);
        check.due("a level of its own", x.round(2, 1), 1);
        x.signal(4, NONE);
        check.due("without one it goes on", x.round(5, 1), 2);
    }

    /** Circle 0 is low, low, high, high; figures 0, 1, 2 of level 0 are for the same, higher, lower. */
    private static GongHouse house() {
        GongHouse x = new GongHouse();
        Check.tune(x, 0, "1G.7L7");
        Check.half(x, 0, 0, 0, "0-");
        Check.half(x, 0, 0, 1, "-d");
        Check.half(x, 0, 1, 0, "34");
        Check.half(x, 0, 2, 1, "41");
        x.use(0, 1, 1);
        x.use(0, 2, 2);
        x.part(0, 2, NONE);
        return x;
    }

    private static void plays() {
        GongHouse x = house();
        int[][] first = {{0, 0, NONE, 1}, {NONE, 3, NONE, NONE}, {6, 6, NONE, 3}, {6, NONE, 5, NONE}};
        int[][] second = {{NONE, NONE, 1, NONE}, {NONE, 4, NONE, NONE}, {NONE, NONE, 2, NONE}, {NONE, NONE, 7, NONE}};
        for (int beat = 0; beat < 4; beat++) {
            for (int player = 0; player < 4; player++) {
                String what = "plays(" + player + ", 1, " + beat + ", ";
                check.due(what + "0)", x.plays(player, 1, beat, 0), first[beat][player]);
                check.due(what + "1)", x.plays(player, 1, beat, 1), second[beat][player]);
            }
        }
        x.strike(0, 2, 1, 0, 3);
        check.due("9 is a key", x.plays(2, 0, 3, 0), 9);
        Check.tune(x, 0, "16");
        x.strike(0, 2, 1, 0, 4);
        check.due("5 and 4", x.plays(2, 0, 1, 0), 9);
        x.signal(0, 3);
        check.due("level 3 has 16 steps", x.plays(1, 1, 0, 15), NONE);
        check.due("level 0 has 2", x.plays(1, 0, 0, 2), BAD);
        x.strike(3, 0, 0, 15, 2);
        x.use(3, 1, 0);
        check.due("step 15", x.plays(1, 1, 0, 15), 2);
        check.due("step 16", x.plays(1, 1, 0, 16), BAD);
    }

    private static void turns() {
        GongHouse x = new GongHouse();
        x.part(0, 1, NONE);
        for (int which = 0; which < 3; which++) {
            x.strike(0, which + 1, 0, 0, which);
            x.use(0, which, which + 1);
        }
        String[] tunes = {"12", "21", "11", "1.", ".1", "..", "1.2", "2.1"};
        String[] turns = {"12", "21", "00", "00", "00", "00", "012", "021"};
        for (int i = 0; i < tunes.length; i++) {
            Check.tune(x, 0, tunes[i]);
            for (int beat = 0; beat < tunes[i].length(); beat++) {
                int due = x.told(0, beat, 1) + turns[i].charAt(beat) - '0';
                check.due("turn of beat " + beat + " of " + tunes[i], x.plays(1, 0, beat, 0), due);
            }
        }
    }

    private static void playsRefuses() {
        GongHouse x = house();
        int[][] calls = {{-1, 0, 0, 0}, {4, 0, 0, 0}, {0, -1, 0, 0}, {0, 2, 0, 0}, {0, 0, -1, 0}, {0, 0, 4, 0}, {0, 0, 0, -1}, {0, 0, 0, 2}};
        for (int[] c : calls) {
            check.due("plays refused", x.plays(c[0], c[1], c[2], c[3]), BAD);
            check.due("damps refused", x.damps(c[0], c[1], c[2], c[3]), BAD);
        }
        for (int[] c : calls) {
            if (c[0] == 0) {
                check.due("damps refused", x.damps(1, c[1], c[2], c[3]), BAD);
            }
        }
        check.due("damps of the gongs", x.damps(3, 0, 0, 0), BAD);
        check.due("damps of the skeleton", x.damps(0, 0, 0, 0), BAD);
        check.due("no piece", new GongHouse().plays(0, 0, 0, 0), BAD);
        check.due("no piece", new GongHouse().damps(1, 0, 0, 0), BAD);
        check.due("no piece", new GongHouse().strikes(0, 0), BAD);
    }

    private static void damps() {
        GongHouse x = new GongHouse();
        Check.tune(x, 0, "11");
        x.part(0, 1, 2);
        Check.half(x, 2, 0, 0, "1-12-d1-");
        int[] due = {NONE, NONE, NONE, 1, NONE, 2, NONE, NONE};
        for (int step = 0; step < 8; step++) {
            check.due("damps step " + step, x.damps(1, 0, 0, step), due[step]);
            check.due("not from the beat ahead", x.damps(1, 0, 1, step), due[step]);
            check.due("the other half", x.damps(2, 0, 0, step), NONE);
        }
        Check.half(x, 2, 0, 1, "3-----4-");
        check.due("the other half", x.damps(2, 0, 0, 6), 3);
        check.due("the main half's own", x.damps(1, 0, 0, 5), 2);
    }

    private static void strikes() {
        GongHouse x = house();
        int[] due = {3, 4, 4, 2};
        for (int player = 0; player < 4; player++) {
            check.due("strikes(" + player + ")", x.strikes(player, 0), due[player]);
        }
        check.due("strikes(-1)", x.strikes(-1, 0), BAD);
        check.due("strikes(4)", x.strikes(4, 0), BAD);
        check.due("strikes round -1", x.strikes(0, -1), BAD);
        check.due("strikes round 2", x.strikes(0, 2), BAD);
        x.signal(0, 1);
        check.due("at a level with no figures", x.strikes(1, 1), 0);
        Check.half(x, 1, 0, 0, "0000");
        check.due("at level 1", x.strikes(1, 1), 16);
    }

    private static void ticks() {
        GongHouse x = new GongHouse();
        for (int circle = 0; circle < 4; circle++) {
            Check.tune(x, circle, "[1]8[2]8[3]8[4]8");
        }
        for (int part = 0; part < 16; part++) {
            x.part(part % 4, 9, 3);
        }
        check.due("ticks of the longest piece", x.ticks(), 144 * 32 * 256);
        check.due("its last round", x.round(143, 3), 143 * 32 * 256);
        x.signal(143, 0);
        check.due("a signal at its end", x.ticks(), 144 * 32 * 256);
        x.signal(142, 0);
        check.due("one ahead of it", x.ticks(), 143 * 32 * 256 + 32 * 32);
    }
}
