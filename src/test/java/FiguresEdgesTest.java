/** The sentences on levels, figures and keys that name an edge (Terms 2, promises 7 to 11), one test for each. */
public final class FiguresEdgesTest {
    private static final int BAD = GongHouse.BAD, NONE = GongHouse.NONE, NOTHING = GongHouse.NOTHING, INDEX = GongHouse.INDEX;
    private static final int LEAST = Integer.MIN_VALUE, MOST = Integer.MAX_VALUE;
    private static final int[] STEPS = {2, 4, 8, 16};
    private static final Check check = new Check("FiguresEdgesTest");
    private static final Twin newHouse = new Twin(check, new Script());
    private static final Twin fullHouse = new Twin(check, Script.ofFullHouse());
    private static final Twin[] houses = {newHouse, fullHouse};

    public static void main(String[] args) {
        nothingIsStruckAtFirst();
        levelsAre0To3();
        stepsAre2And4And8And16();
        figuresAre0To5();
        halvesAre0And1();
        shiftsAreMinus4To4OrNothing();
        onIs0Or1();
        nowhereTogetherAtFirst();
        rightIsOneHalfAtEachStep();
        whereTheyMayTheyNeedNot();
        wrongTellsTheFirstStep();
        usedIsFigure0AtFirst();
        usedAreThree();
        theLastBeatGoesOnToTheFirst();
        keysAreBentBack();
        layTakesMinus4To4();
        beyondItsPlacesNothing();
        layTakesAsManyPlacesAsSteps();
        layOfNoSheet();
        layTellsTheFirstRefusal();
        check.end();
    }

    /** "a SHIFT -4 .. 4, or nothing (at first)"; strike: "what it did (NONE)" */
    private static void nothingIsStruckAtFirst() {
        GongHouse x = new GongHouse();
        for (int level = 0; level < 4; level++) {
            for (int figure = 0; figure < 6; figure++) {
                for (int step = 0; step < STEPS[level]; step++) {
                    check.due("strike at first", x.strike(level, figure, 0, step, 1), NONE);
                    check.due("strike at first", x.strike(level, figure, 1, step, 2), NONE);
                }
            }
        }
    }

    /** "LEVELS 0 .. 3" */
    private static void levelsAre0To3() {
        GongHouse x = new GongHouse();
        x.sheet(0, 2);
        for (int level : new int[] {0, 3}) {
            check.due("strike at level " + level, x.strike(level, 0, 0, 0, level), NONE);
            check.due("lay at level " + level, x.lay(level, 0, 0, 0), 2);
            check.due("together at level " + level, x.together(level, 0, 0, 1), 0);
            check.due("wrong at level " + level, x.wrong(level, 1), 0);
            check.due("use at level " + level, x.use(level, 0, 1), 0);
        }
        int[] refused = {-1, 4, LEAST, MOST, NONE};
        for (Twin house : houses) {
            house.refusesEach(BAD, new int[] {Calls.STRIKE, 0, 0, 0, 0, 0}, 1, refused);
            house.refusesEach(BAD, new int[] {Calls.LAY, 0, 0, 0, 0}, 1, refused);
            house.refusesEach(BAD, new int[] {Calls.TOGETHER, 0, 0, 0, 1}, 1, refused);
            house.refusesEach(BAD, new int[] {Calls.WRONG, 0, 0}, 1, refused);
            house.refusesEach(BAD, new int[] {Calls.USE, 0, 0, 5}, 1, refused);
        }
    }

    /** "at LEVEL l a BEAT has 2, 4, 8, 16 STEPS" */
    private static void stepsAre2And4And8And16() {
        GongHouse x = new GongHouse();
        for (int level = 0; level < 4; level++) {
            for (int step : new int[] {0, STEPS[level] - 1}) {
                check.due("strike at step " + step, x.strike(level, 2, 1, step, 3), NONE);
                check.due("it stands", x.strike(level, 2, 1, step, 3), 3);
                check.due("together at step " + step, x.together(level, 2, step, 1), 0);
                check.due("it stands", x.together(level, 2, step, 1), 1);
            }
            for (Twin house : houses) {
                for (int step : new int[] {-1, STEPS[level], LEAST, MOST, NONE}) {
                    house.refuses(BAD, Calls.STRIKE, level, 2, 0, step, 4);
                    house.refuses(BAD, Calls.STRIKE, level, 2, 1, step, NONE);
                    house.refuses(BAD, Calls.TOGETHER, level, 2, step, 1);
                    house.refuses(BAD, Calls.TOGETHER, level, 2, step, 0);
                }
            }
        }
    }

    /** "FIGURES 0 .. 5 of a LEVEL" */
    private static void figuresAre0To5() {
        GongHouse x = new GongHouse();
        x.sheet(1, 1);
        for (int figure : new int[] {0, 5}) {
            check.due("strike of figure " + figure, x.strike(1, figure, 0, 0, figure - 1), NONE);
            check.due("it stands", x.strike(1, figure, 0, 0, NONE), figure - 1);
            check.due("lay of figure " + figure, x.lay(1, figure, 0, 1), 1);
            check.due("together of figure " + figure, x.together(1, figure, 0, 1), 0);
            check.due("wrong of figure " + figure, x.wrong(1, figure), 1);
            check.due("use of figure " + figure, x.use(1, 0, figure), 0);
            check.due("another figure", x.wrong(1, 3), 0);
        }
        check.due("it is used", x.use(1, 0, 0), 5);
        int[] refused = {-1, 6, LEAST, MOST, NONE};
        for (Twin house : houses) {
            house.refusesEach(BAD, new int[] {Calls.STRIKE, 1, 0, 0, 0, 0}, 2, refused);
            house.refusesEach(BAD, new int[] {Calls.LAY, 1, 0, 0, 0}, 2, refused);
            house.refusesEach(BAD, new int[] {Calls.TOGETHER, 1, 0, 0, 1}, 2, refused);
            house.refusesEach(BAD, new int[] {Calls.WRONG, 1, 0}, 2, refused);
            house.refusesEach(BAD, new int[] {Calls.USE, 1, 0, 0}, 3, refused);
        }
    }

    /** "a half (0 MAIN, 1 OTHER)" */
    private static void halvesAre0And1() {
        GongHouse x = new GongHouse();
        x.sheet(0, 1);
        check.due("strike of half 0", x.strike(0, 0, 0, 1, 3), NONE);
        check.due("strike of half 1", x.strike(0, 0, 1, 1, 4), NONE);
        check.due("half 0 stands", x.strike(0, 0, 0, 1, NONE), 3);
        check.due("half 1 stands", x.strike(0, 0, 1, 1, NONE), 4);
        check.due("lay of half 0", x.lay(0, 0, 0, 0), 1);
        check.due("half 1 stays", x.strike(0, 0, 1, 0, NONE), NONE);
        check.due("lay of half 1", x.lay(0, 0, 1, 0), 1);
        check.due("half 0 stays", x.strike(0, 0, 0, 0, NONE), 0);
        check.due("half 1 is laid", x.strike(0, 0, 1, 0, NONE), 0);
        for (Twin house : houses) {
            house.refusesEach(BAD, new int[] {Calls.STRIKE, 0, 0, 0, 0, 0}, 3, -1, 2, LEAST, MOST, NONE);
            house.refusesEach(BAD, new int[] {Calls.LAY, 0, 0, 0, 0}, 3, -1, 2, LEAST, MOST, NONE);
        }
    }

    /** strike: "(-4 .. 4; NONE: nothing): what it did (NONE). BAD" */
    private static void shiftsAreMinus4To4OrNothing() {
        GongHouse x = new GongHouse();
        int before = NONE;
        for (int shift : new int[] {-4, -3, -2, -1, 0, 1, 2, 3, 4, NONE, 4, -4, NONE, NONE}) {
            check.due("strike " + shift, x.strike(2, 4, 1, 7, shift), before);
            before = shift;
        }
        for (Twin house : houses) {
            house.refusesEach(BAD, new int[] {Calls.STRIKE, 2, 4, 1, 7, 0}, 5,
                -5, 5, NONE - 1, NONE + 1, BAD, GongHouse.NO, NOTHING, 256, -252, LEAST, MOST);
        }
    }

    /** "at a STEP (on 1) or not (0): what it was. BAD" */
    private static void onIs0Or1() {
        GongHouse x = new GongHouse();
        check.due("off while off", x.together(1, 1, 3, 0), 0);
        check.due("on", x.together(1, 1, 3, 1), 0);
        check.due("on while on", x.together(1, 1, 3, 1), 1);
        check.due("off", x.together(1, 1, 3, 0), 1);
        check.due("off again", x.together(1, 1, 3, 0), 0);
        for (Twin house : houses) {
            house.refusesEach(BAD, new int[] {Calls.TOGETHER, 1, 1, 3, 0}, 4, -1, 2, LEAST, MOST, NONE);
        }
    }

    /** "at which STEPS both may strike TOGETHER": at none, until told, and told of one STEP of one FIGURE. */
    private static void nowhereTogetherAtFirst() {
        GongHouse x = new GongHouse();
        for (int level = 0; level < 4; level++) {
            for (int figure = 0; figure < 6; figure++) {
                for (int step = 0; step < STEPS[level]; step++) {
                    check.due("together at first", x.together(level, figure, step, 1), 0);
                }
            }
        }
    }

    /** "RIGHT, if at each STEP one half strikes, and both at once just where they may", at the first and the last STEP too */
    private static void rightIsOneHalfAtEachStep() {
        for (int level = 0; level < 4; level++) {
            for (int step = 0; step < STEPS[level]; step++) {
                GongHouse x = new GongHouse();
                x.sheet(0, STEPS[level]);
                check.due("lay", x.lay(level, 5, 0, 0), STEPS[level]);
                check.due("main alone", x.wrong(level, 5), NONE);
                x.strike(level, 5, 1, step, -4);
                check.due("both where they may not", x.wrong(level, 5), step);
                check.due("none is right", x.count(2), 0);
                x.together(level, 5, step, 1);
                check.due("both where they may", x.wrong(level, 5), NONE);
                check.due("one is right", x.count(2), 1);
                x.strike(level, 5, 0, step, NONE);
                check.due("other alone where both may", x.wrong(level, 5), NONE);
                x.together(level, 5, step, 0);
                check.due("other alone", x.wrong(level, 5), NONE);
                x.strike(level, 5, 1, step, NONE);
                check.due("neither", x.wrong(level, 5), step);
                x.together(level, 5, step, 1);
                check.due("neither where both may", x.wrong(level, 5), step);
                check.due("none is right any more", x.count(2), 0);
            }
        }
    }

    /** "(where they may they need not)" */
    private static void whereTheyMayTheyNeedNot() {
        for (int level = 0; level < 4; level++) {
            GongHouse x = new GongHouse();
            for (int step = 0; step < STEPS[level]; step++) {
                x.together(level, 0, step, 1);
                x.strike(level, 0, step % 2, step, 0);
            }
            check.due("they may everywhere and do nowhere", x.wrong(level, 0), NONE);
            for (int step = 0; step < STEPS[level]; step++) {
                x.strike(level, 0, 1 - step % 2, step, 0);
            }
            check.due("they may everywhere and do everywhere", x.wrong(level, 0), NONE);
        }
    }

    /** wrong: "else the first STEP at which it is not" */
    private static void wrongTellsTheFirstStep() {
        GongHouse x = new GongHouse();
        check.due("nothing told", x.wrong(3, 5), 0);
        for (int step = 0; step < 15; step++) {
            x.strike(3, 5, step % 2, step, 0);
            check.due("struck up to step " + step, x.wrong(3, 5), step + 1);
        }
        x.strike(3, 5, 1, 15, 0);
        check.due("all struck", x.wrong(3, 5), NONE);
        x.strike(3, 5, 0, 15, 0);
        check.due("both at the last", x.wrong(3, 5), 15);
        x.strike(3, 5, 0, 7, NONE);
        x.strike(3, 5, 1, 7, NONE);
        check.due("neither at 7, both at 15", x.wrong(3, 5), 7);
        x.strike(3, 5, 1, 0, 0);
        check.due("both at 0, neither at 7", x.wrong(3, 5), 0);
    }

    /** "(FIGURE 0 for all at first)" */
    private static void usedIsFigure0AtFirst() {
        GongHouse x = new GongHouse();
        for (int level = 0; level < 4; level++) {
            for (int which = 0; which < 3; which++) {
                check.due("used at first", x.use(level, which, 5), 0);
            }
        }
    }

    /** use: "for 0 the same, 1 a higher, 2 a lower TONE becomes a FIGURE: which it was. BAD" */
    private static void usedAreThree() {
        GongHouse x = new GongHouse();
        check.due("which 0", x.use(3, 0, 4), 0);
        check.due("which 2", x.use(3, 2, 5), 0);
        check.due("which 1 is left alone", x.use(3, 1, 3), 0);
        check.due("which 0 again", x.use(3, 0, 0), 4);
        check.due("which 2 again", x.use(3, 2, 0), 5);
        check.due("which 1 again", x.use(3, 1, 0), 3);
        for (Twin house : houses) {
            house.refusesEach(BAD, new int[] {Calls.USE, 3, 0, 5}, 2, -1, 3, LEAST, MOST, NONE);
        }
    }

    /** "of a BEAT whose next one (round the CIRCLE) has the same TONE (0), a higher one (1), a lower one (2)" */
    private static void theLastBeatGoesOnToTheFirst() {
        String[] tunes = {"11", "12", "21", "17", "71", ".1", "1.", "1.1", "1.2", "2.1", "..3", "3..4", "7" + "1".repeat(31), "1" + "7".repeat(31)};
        String[] turns = {"00", "12", "21", "12", "21", "00", "00", "000", "012", "021", "000", "0012", "2" + "0".repeat(30) + "1", "1" + "0".repeat(30) + "2"};
        for (int level = 0; level < 4; level++) {
            for (int i = 0; i < tunes.length; i++) {
                GongHouse x = new GongHouse();
                x.part(0, 1, level);
                for (int which = 0; which < 3; which++) {
                    x.strike(level, which + 3, 0, STEPS[level] - 1, which);
                    x.use(level, which, which + 3);
                }
                Check.tune(x, 0, tunes[i]);
                for (int beat = 0; beat < turns[i].length(); beat++) {
                    int due = x.told(0, beat, 1) + turns[i].charAt(beat) - '0';
                    check.due("turn of beat " + beat + " of " + tunes[i], x.plays(1, 0, beat, STEPS[level] - 1), due);
                }
            }
        }
    }

    /** "KEYS 0 .. 9: ... below 0 it is 5 more, above 9 it is 5 less" */
    private static void keysAreBentBack() {
        int[][] keys = {
            {1, 2, 3, 4, 0, 1, 2, 3, 4},
            {2, 3, 4, 0, 1, 2, 3, 4, 5},
            {3, 4, 0, 1, 2, 3, 4, 5, 6},
            {4, 0, 1, 2, 3, 4, 5, 6, 7},
            {0, 1, 2, 3, 4, 5, 6, 7, 8},
            {1, 2, 3, 4, 5, 6, 7, 8, 9},
            {2, 3, 4, 5, 6, 7, 8, 9, 5}};
        for (int tone = 0; tone < 7; tone++) {
            GongHouse x = new GongHouse();
            x.part(0, 1, 0);
            Check.tune(x, 0, (tone + 1) + ".");
            for (int shift = -4; shift <= 4; shift++) {
                x.strike(0, 0, 0, 1, shift);
                x.strike(0, 0, 1, 0, shift);
                check.due("main: tone " + tone + " and " + shift, x.plays(1, 0, 1, 1), keys[tone][shift + 4]);
                check.due("other: tone " + tone + " and " + shift, x.plays(2, 0, 0, 0), keys[tone][shift + 4]);
            }
        }
    }

    /** lay: "(not -4 .. 4: nothing"; "how many strikes" */
    private static void layTakesMinus4To4() {
        for (int v = -128; v < 128; v++) {
            GongHouse x = new GongHouse();
            x.strike(0, 0, 1, 0, 1);
            x.strike(0, 0, 1, 1, 1);
            x.sheet(1, 2);
            x.mark(1, 1, v);
            boolean isShift = v >= -4 && v <= 4;
            check.due("lay " + v, x.lay(0, 0, 1, 1), isShift ? 2 : 1);
            check.due("what was laid", x.strike(0, 0, 1, 1, NONE), isShift ? v : NONE);
            check.due("what was laid ahead of it", x.strike(0, 0, 1, 0, NONE), 0);
        }
    }

    /** lay: "beyond its places nothing"; a SHEET of 0 places too */
    private static void beyondItsPlacesNothing() {
        for (int level = 0; level < 4; level++) {
            for (int places = 0; places <= STEPS[level]; places++) {
                GongHouse x = new GongHouse();
                for (int step = 0; step < STEPS[level]; step++) {
                    x.strike(level, 3, 0, step, 4);
                    x.strike(level, 3, 1, step, 3);
                }
                x.together(level, 3, 0, 1);
                // Places that the sheet had once are none any more
                x.sheet(0, 16);
                x.sheet(0, places);
                check.due("lay " + places + " places", x.lay(level, 3, 0, 0), places);
                for (int step = 0; step < STEPS[level]; step++) {
                    check.due("step " + step, x.strike(level, 3, 0, step, NONE), step < places ? 0 : NONE);
                    check.due("the other half stays", x.strike(level, 3, 1, step, NONE), 3);
                }
                check.due("together stays", x.together(level, 3, 0, 0), 1);
            }
        }
    }

    /** lay: "INDEX: the SHEET has more places than the FIGURE STEPS" */
    private static void layTakesAsManyPlacesAsSteps() {
        for (int level = 0; level < 4; level++) {
            GongHouse x = new GongHouse();
            x.sheet(0, STEPS[level]);
            check.due("as many places as steps", x.lay(level, 0, 1, 0), STEPS[level]);
            for (int places = STEPS[level] + 1; places <= 16; places++) {
                Twin house = new Twin(check, new Script().half(level, 0, 0, "12").half(level, 0, 1, "34").call(Calls.SHEET, 1, places));
                house.refuses(INDEX, Calls.LAY, level, 0, 0, 1);
                house.refuses(INDEX, Calls.LAY, level, 0, 1, 1);
            }
        }
        for (int level = 0; level < 3; level++) {
            fullHouse.refuses(INDEX, Calls.LAY, level, 5, 1, 0);
        }
        // Places that are nothing count all the same
        Twin marked = new Twin(check, new Script().call(Calls.SHEET, 0, 3).call(Calls.MARK, 0, 2, 99));
        marked.refuses(INDEX, Calls.LAY, 0, 0, 0, 0);
    }

    /** lay: "NOTHING"; "SHEETS 0, 1" */
    private static void layOfNoSheet() {
        newHouse.refuses(NOTHING, Calls.LAY, 0, 0, 0, 0);
        newHouse.refuses(NOTHING, Calls.LAY, 3, 5, 1, 1);
        Twin half = new Twin(check, new Script().half(0, 0, 0, "12").call(Calls.SHEET, 0, 2));
        half.refuses(NOTHING, Calls.LAY, 0, 0, 0, 1);
        for (Twin house : houses) {
            house.refusesEach(BAD, new int[] {Calls.LAY, 3, 0, 0, 0}, 4, -1, 2, LEAST, MOST, NONE);
        }
    }

    /** lay: "BAD; NOTHING; INDEX", of several the one that stands first */
    private static void layTellsTheFirstRefusal() {
        int[][] refused = {{Calls.LAY, 4, 0, 0, 0}, {Calls.LAY, -1, 0, 0, 0}, {Calls.LAY, 0, 6, 0, 0}, {Calls.LAY, 0, -1, 0, 0},
            {Calls.LAY, 0, 0, 2, 0}, {Calls.LAY, 0, 0, -1, 0}};
        Twin longSheet = new Twin(check, new Script().call(Calls.SHEET, 0, 16));
        for (int[] told : refused) {
            newHouse.refuses(BAD, told);
            longSheet.refuses(BAD, told);
        }
        longSheet.refuses(NOTHING, Calls.LAY, 0, 0, 0, 1);
        longSheet.refuses(INDEX, Calls.LAY, 0, 0, 0, 0);
    }
}
