/** The sentences on leaps and the choice that name an edge (Terms 4, promises 20 and 21), one test for each. */
public final class LeapsEdgesTest {
    private static final int BAD = GongHouse.BAD, NO = GongHouse.NO, NONE = GongHouse.NONE;
    private static final int LEAST = Integer.MIN_VALUE, MOST = Integer.MAX_VALUE;
    private static final int[] STEPS = {2, 4, 8, 16};
    private static final Check check = new Check("LeapsEdgesTest");
    private static final Twin newHouse = new Twin(check, new Script());
    private static final Twin fullHouse = new Twin(check, Script.ofFullHouse());
    private static final Twin[] houses = {newHouse, fullHouse};

    public static void main(String[] args) {
        leapsCirclesAndLevels();
        leapsFiguresAre0To5();
        leapsNoIfOneIsNotRight();
        leapsTellsTheFirstRefusal();
        theLastStepAndTheFirstToo();
        theLineIsMainOrElseOther();
        leapsAreOfKeysThatAreBent();
        leapsOfNothingAndTheMost();
        figuresAreForSameHigherLower();
        leapsOfWhatIsToldNow();
        choiceCirclesAndLevels();
        choiceNoIfNoFigureIsRight();
        choiceOfOneFigure();
        choiceOfSeveralTheFirst();
        choiceIsTheLeast();
        whatIsUsedStays();
        check.end();
    }

    /** A house in which all steps of a figure strike its shift, for each level and those figures that are told. */
    private static GongHouse flatHouse(int level, int... shifts) {
        GongHouse x = new GongHouse();
        for (int figure = 0; figure < shifts.length; figure++) {
            tellFlat(x, level, figure, shifts[figure]);
        }
        return x;
    }

    private static void tellFlat(GongHouse x, int level, int figure, int shift) {
        for (int step = 0; step < STEPS[level]; step++) {
            x.strike(level, figure, 0, step, shift);
        }
    }

    /** leaps: "BAD"; "CIRCLES 0 .. 3", "LEVELS 0 .. 3" */
    private static void leapsCirclesAndLevels() {
        for (int level = 0; level < 4; level++) {
            GongHouse x = flatHouse(level, 0);
            for (int circle = 0; circle < 4; circle++) {
                Check.tune(x, circle, "1" + (circle + 2));
                check.due("leaps(" + circle + ", " + level + ", 0)", x.leaps(circle, level, 0), 2 * (circle + 1));
            }
        }
        for (Twin house : houses) {
            house.refusesEach(BAD, new int[] {Calls.LEAPS, 0, 0, 0}, 1, -1, 4, LEAST, MOST, NONE);
            house.refusesEach(BAD, new int[] {Calls.LEAPS, 0, 0, 0}, 2, -1, 4, LEAST, MOST, NONE);
        }
    }

    /** leaps: "with FIGURES 100 * a, 10 * b and c"; "FIGURES 0 .. 5"; "nothing below 0 is divided" */
    private static void leapsFiguresAre0To5() {
        GongHouse x = flatHouse(0, 0, 0, 0, 0, 0, 0);
        int[] taken = {0, 5, 50, 55, 500, 505, 550, 555, 123, 543};
        for (int figures : taken) {
            check.due("leaps with " + figures, x.leaps(0, 0, figures), 0);
        }
        int[] refused = {-1, 6, 9, 16, 56, 59, 60, 90, 95, 99, 106, 160, 199, 556, 560, 565, 599, 600, 605, 900, 999,
            1000, 1005, 1055, 1555, 10000, -5, -10, -100, -555, LEAST, MOST, NONE};
        for (int figures : refused) {
            check.due("leaps with " + figures, x.leaps(0, 0, figures), BAD);
        }
        for (Twin house : houses) {
            house.refusesEach(BAD, new int[] {Calls.LEAPS, 0, 0, 0}, 3, refused);
        }
    }

    /** leaps: "NO: one is not RIGHT", whether its BEATS come in the CIRCLE or not */
    private static void leapsNoIfOneIsNotRight() {
        int[] no = {1, 10, 100, 11, 101, 110, 111, 5, 50, 500, 555};
        for (int level = 0; level < 4; level++) {
            Script script = new Script().tune(0, "12").call(Calls.SHEET, 0, STEPS[level]).call(Calls.LAY, level, 0, 0, 0);
            // Figure 5 is told but for its last step
            script.call(Calls.SHEET, 0, STEPS[level] - 1).call(Calls.LAY, level, 5, 1, 0);
            check.due("right", script.made().leaps(0, level, 0), 2);
            Twin house = new Twin(check, script);
            house.refusesEach(NO, new int[] {Calls.LEAPS, 0, level, 0}, 3, no);
            house.refusesEach(NO, new int[] {Calls.LEAPS, 1, level, 0}, 3, no);
            newHouse.refuses(NO, Calls.LEAPS, 0, level, 0);
        }
    }

    /** leaps: "BAD; NO", of several the one that stands first */
    private static void leapsTellsTheFirstRefusal() {
        newHouse.refuses(BAD, Calls.LEAPS, 4, 0, 0);
        newHouse.refuses(BAD, Calls.LEAPS, -1, 0, 0);
        newHouse.refuses(BAD, Calls.LEAPS, 0, 4, 0);
        newHouse.refuses(BAD, Calls.LEAPS, 0, 0, 6);
        newHouse.refuses(BAD, Calls.LEAPS, 0, 0, 60);
        newHouse.refuses(BAD, Calls.LEAPS, 0, 0, 600);
        fullHouse.refuses(BAD, Calls.LEAPS, 0, 0, 356);
        fullHouse.refuses(NO, Calls.LEAPS, 0, 0, 3);
    }

    /** "the last one of the CIRCLE and its first one, too" */
    private static void theLastStepAndTheFirstToo() {
        for (int level = 0; level < 4; level++) {
            GongHouse x = flatHouse(level, 0);
            Check.tune(x, 0, "17");
            check.due("there and back", x.leaps(0, level, 0), 12);
            Check.tune(x, 0, "1".repeat(31) + "7");
            check.due("there and back at the end", x.leaps(0, level, 0), 12);
            Check.tune(x, 0, "1.4.7");
            check.due("up in two, and back", x.leaps(0, level, 0), 12);
            // All beats the same: each goes from its last step to the next one's first
            x.strike(level, 0, 0, STEPS[level] - 1, 3);
            Check.tune(x, 0, "..");
            check.due("two beats", x.leaps(0, level, 0), 4 * 3);
        }
    }

    /** "what MAIN strikes, or, if it does not, OTHER" */
    private static void theLineIsMainOrElseOther() {
        GongHouse x = new GongHouse();
        Check.tune(x, 0, "11");
        Check.half(x, 1, 0, 0, "0-2-");
        Check.half(x, 1, 0, 1, "-143");
        x.together(1, 0, 2, 1);
        check.due("the line is 0 1 2 3", x.leaps(0, 1, 0), 2 * (1 + 1 + 1 + 3));
        // What OTHER strikes where MAIN does, does not count
        x.strike(1, 0, 1, 2, -4);
        check.due("it still is", x.leaps(0, 1, 0), 2 * (1 + 1 + 1 + 3));
        x.strike(1, 0, 0, 2, NONE);
        check.due("the line is 0 1 1 3", x.leaps(0, 1, 0), 2 * (1 + 0 + 2 + 3));
    }

    /** "differences (without sign) of KEYS": of those that are bent back */
    private static void leapsAreOfKeysThatAreBent() {
        GongHouse x = new GongHouse();
        Check.half(x, 0, 0, 0, "ab");
        Check.tune(x, 0, "11");
        check.due("keys 4 3 4 3", x.leaps(0, 0, 0), 4);
        Check.tune(x, 0, "12");
        check.due("keys 4 3 0 4", x.leaps(0, 0, 0), 1 + 3 + 4 + 0);
        Check.half(x, 0, 0, 0, "43");
        Check.tune(x, 0, "7.");
        check.due("keys 5 9 5 9", x.leaps(0, 0, 0), 16);
    }

    /** LEAPS of a line on one KEY are 0; the most that were found are 7 at each STEP of 32 BEATS at LEVEL 3. */
    private static void leapsOfNothingAndTheMost() {
        for (int level = 0; level < 4; level++) {
            GongHouse x = flatHouse(level, 4);
            check.due("leaps of one key", x.leaps(0, level, 0), 0);
            for (int step = 0; step < STEPS[level]; step += 2) {
                x.strike(level, 0, 0, step, -4);
                x.strike(level, 0, 0, step + 1, 3);
            }
            Check.tune(x, 0, "[7]9[7]9[7]9[7]5");
            check.due("keys 2 9 2 9", x.leaps(0, level, 0), 32 * STEPS[level] * 7);
        }
    }

    /** leaps: "(for the same, higher, lower)" */
    private static void figuresAreForSameHigherLower() {
        // Keys of the beats: same 0, higher 0, lower 2, and the shift of each figure
        int[] figures = {0, 400, 40, 4, 320, 24};
        int[] due = {4, 4 + 2 + 2, 4 + 2 + 2, 0 + 6 + 6, 1 + 0 + 1, 2 + 4 + 6};
        for (int i = 0; i < figures.length; i++) {
            GongHouse x = flatHouse(0, 0, 1, 2, 3, 4);
            Check.tune(x, 0, "113");
            check.due("leaps with " + figures[i], x.leaps(0, 0, figures[i]), due[i]);
        }
    }

    /** LEAPS are those of what is told now, whatever was asked ahead of it at this LEVEL or another one. */
    private static void leapsOfWhatIsToldNow() {
        for (int level = 0; level < 4; level++) {
            GongHouse x = flatHouse((level + 1) % 4, 1, 1, 1);
            Check.tune(x, 0, "113");
            check.due("another level", x.leaps(0, (level + 1) % 4, 12), 4);
            for (int shift = -2; shift <= 2; shift++) {
                tellFlat(x, level, 1, 0);
                tellFlat(x, level, 2, shift);
                int lower = 2 + shift;
                check.due("same", x.leaps(0, level, 211), shift < 0 ? 2 * (5 + shift) : Math.max(2, shift) * 2);
                tellFlat(x, level, 2, 4);
                check.due("changed", x.leaps(0, level, 211), 8);
                tellFlat(x, level, 2, shift);
                check.due("lower", x.leaps(0, level, 112), 2 * lower);
            }
        }
    }

    /** choice: "BAD"; "CIRCLES 0 .. 3", "LEVELS 0 .. 3" */
    private static void choiceCirclesAndLevels() {
        for (int level = 0; level < 4; level++) {
            GongHouse x = new GongHouse();
            tellFlat(x, level, level + 1, 0);
            for (int circle = 0; circle < 4; circle++) {
                check.due("choice(" + circle + ", " + level + ")", x.choice(circle, level), 111 * (level + 1));
            }
        }
        for (Twin house : houses) {
            house.refusesEach(BAD, new int[] {Calls.CHOICE, 0, 0}, 1, -1, 4, LEAST, MOST, NONE);
            house.refusesEach(BAD, new int[] {Calls.CHOICE, 0, 0}, 2, -1, 4, LEAST, MOST, NONE);
        }
    }

    /** choice: "NO: no FIGURE is RIGHT" */
    private static void choiceNoIfNoFigureIsRight() {
        for (int level = 0; level < 4; level++) {
            for (int circle = 0; circle < 4; circle++) {
                newHouse.refuses(NO, Calls.CHOICE, circle, level);
            }
            // All but one step of one figure, and all of a figure of another level
            int other = (level + 1) % 4;
            Script script = new Script().call(Calls.SHEET, 0, STEPS[level] - 1).call(Calls.LAY, level, 5, 0, 0);
            script.call(Calls.SHEET, 0, STEPS[other]).call(Calls.LAY, other, 5, 0, 0);
            new Twin(check, script).refuses(NO, Calls.CHOICE, 0, level);
            GongHouse x = script.made();
            check.due("right at another level", x.choice(0, other), 555);
            x.strike(level, 5, 1, STEPS[level] - 1, 0);
            check.due("the last step is struck", x.choice(0, level), 555);
            x.strike(level, 5, 1, STEPS[level] - 1, NONE);
            check.due("no more", x.choice(0, level), NO);
        }
    }

    /** "of all threes of RIGHT FIGURES": one FIGURE makes a three, the first as the last. */
    private static void choiceOfOneFigure() {
        for (int figure = 0; figure < 6; figure++) {
            for (int level = 0; level < 4; level++) {
                GongHouse x = new GongHouse();
                Check.tune(x, 2, "1357");
                tellFlat(x, level, figure, figure - 3);
                check.due("one figure is right", x.choice(2, level), 111 * figure);
            }
        }
    }

    /** "of several the first (by FIGURES in order)" */
    private static void choiceOfSeveralTheFirst() {
        GongHouse x = flatHouse(1, 0, 0, 0, 0, 0, 0);
        Check.tune(x, 0, "1357");
        check.due("six that are the same", x.choice(0, 1), 0);
        x.strike(1, 0, 0, 0, NONE);
        check.due("five that are the same", x.choice(0, 1), 111);
        x.strike(1, 0, 0, 0, -4);
        // No beat is the same, so the first digit is free; figure 0 leaps more over each of the others
        check.due("the first leaps more", x.choice(0, 1), 11);
        // Over beats that are all the same only the first digit counts
        check.due("the first digit", x.choice(1, 1), 100);
        // 0: keys 1 0 0 0 2 1 1 1; 1: keys 1 0 0 0 1 1 1 1; 11: keys 0 0 0 0 1 1 1 1
        Check.tune(x, 0, "12");
        check.due("leaps 0", x.leaps(0, 1, 0), 4);
        check.due("leaps 1", x.leaps(0, 1, 1), 2);
        check.due("leaps 11", x.leaps(0, 1, 11), 2);
        check.due("the first of two that are not the first of all", x.choice(0, 1), 1);
    }

    /** "that with the least LEAPS" */
    private static void choiceIsTheLeast() {
        GongHouse x = flatHouse(0, 4, 3, 2, 1, 0, -1);
        // Keys of a higher beat 0 and of a lower one 2: shifts that make them meet
        Check.tune(x, 0, "13");
        check.due("shifts 4 and 2", x.choice(0, 0), 2);
        check.due("its leaps", x.leaps(0, 0, 2), 0);
        Check.tune(x, 0, "17");
        // 0 and 4 is 4, 6 and -1 is 5, 6 and 4 is 5 too
        check.due("bent keys", x.choice(0, 0), 0);
        check.due("its leaps", x.leaps(0, 0, 0), 2);
        tellFlat(x, 0, 5, -2);
        check.due("the last figure is better", x.choice(0, 0), 5);
        check.due("its leaps", x.leaps(0, 0, 5), 0);
    }

    /** choice: "(What is USED stays.)" */
    private static void whatIsUsedStays() {
        GongHouse x = flatHouse(0, 0, 0, 0, 0);
        for (int which = 0; which < 3; which++) {
            x.use(0, which, which + 1);
        }
        check.due("choice", x.choice(0, 0), 0);
        check.due("leaps", x.leaps(0, 0, 333), 0);
        for (int which = 0; which < 3; which++) {
            check.due("use", x.use(0, which, 0), which + 1);
        }
    }
}
