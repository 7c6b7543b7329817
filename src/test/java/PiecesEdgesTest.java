/** The sentences on pieces, rounds, signals and players that name an edge (Terms 3, promises 12 to 19), one test for each. */
public final class PiecesEdgesTest {
    private static final int BAD = GongHouse.BAD, FULL = GongHouse.FULL, NONE = GongHouse.NONE;
    private static final int LEAST = Integer.MIN_VALUE, MOST = Integer.MAX_VALUE;
    private static final int[] STEPS = {2, 4, 8, 16};
    private static final int[] PACE = {32, 64, 128, 256};
    private static final Check check = new Check("PiecesEdgesTest");
    private static final Twin newHouse = new Twin(check, new Script());
    private static final Twin fullHouse = new Twin(check, Script.ofFullHouse());
    /** One round of three beats at level 1: "1G.L2" with a figure in which both halves strike. */
    private static final Script small = new Script().tune(0, "1G.L2").half(1, 0, 0, "0-1-").half(1, 0, 1, "-2-3").call(Calls.PART, 0, 1, 1);
    private static final Twin smallHouse = new Twin(check, small);
    private static final Twin[] houses = {newHouse, smallHouse, fullHouse};

    public static void main(String[] args) {
        partsAre16AtMost();
        partTellsTheFirstRefusal();
        partCirclesAre0To3();
        timesAre1To9();
        partLevelsAre0To3OrNone();
        signalsStayWithAPart();
        roundsAreNumberedFrom0();
        thereAre144RoundsAtMost();
        roundWhatIs0To3();
        levelIs0AsThePieceBegins();
        anOwnLevelComesWithThePartsFirstRound();
        aSignalTellsBehindItsRound();
        anOwnLevelStandsOverASignal();
        signalRoundsAre0To143();
        signalLevelsAre0To3OrNone();
        signalsAre20AtMost();
        oneSignalOfARound();
        signalTellsTheFirstRefusal();
        dropLeavesNoPartsAndNoSignals();
        dropLeavesAllElse();
        playersAre0To3();
        playsRoundsBeatsAndSteps();
        theSkeletonStrikesAtTheFirstStep();
        gongsStrikeAtTheFirstStep();
        halvesStrikeAsToldByFigures();
        aHalfDampsItsLastKey();
        aHalfDampsNothingOfTheBeatAhead();
        aHalfDampsNoKeyThatItStrikesAgain();
        dampsRefuses();
        strikesOfNothingAndOfAll();
        strikesRefuses();
        paceDoublesAtEachLevel();
        ticksOfNoPieceAndOfTheLongest();
        check.end();
    }

    /** "A PIECE is a row of PARTS, 16 at most"; part: "how many it has", "FULL" */
    private static void partsAre16AtMost() {
        Script script = new Script();
        GongHouse x = new GongHouse();
        for (int part = 1; part <= 16; part++) {
            check.due("part " + part, x.part(part % 4, 1, NONE), part);
            script.call(Calls.PART, part % 4, 1, NONE);
        }
        check.due("part 17", x.part(0, 1, 0), FULL);
        check.due("parts", x.count(3), 16);
        check.due("drop", x.drop(), 16);
        check.due("part behind drop", x.part(0, 1, 0), 1);
        Twin house = new Twin(check, script);
        house.refuses(FULL, Calls.PART, 0, 1, NONE);
        house.refuses(FULL, Calls.PART, 3, 9, 3);
        fullHouse.refuses(FULL, Calls.PART, 0, 1, 0);
    }

    /** part: "BAD: circle, times, level (NONE: none of its own); FULL", of several the one that stands first */
    private static void partTellsTheFirstRefusal() {
        fullHouse.refuses(BAD, Calls.PART, 4, 1, 0);
        fullHouse.refuses(BAD, Calls.PART, 0, 0, 0);
        fullHouse.refuses(BAD, Calls.PART, 0, 10, 0);
        fullHouse.refuses(BAD, Calls.PART, 0, 1, 4);
    }

    /** part: "BAD: circle" */
    private static void partCirclesAre0To3() {
        GongHouse x = new GongHouse();
        check.due("circle 0", x.part(0, 1, NONE), 1);
        check.due("circle 3", x.part(3, 1, NONE), 2);
        check.due("circle of round 0", x.round(0, 0), 0);
        check.due("circle of round 1", x.round(1, 0), 3);
        for (Twin house : houses) {
            house.refusesEach(BAD, new int[] {Calls.PART, 0, 1, NONE}, 1, -1, 4, LEAST, MOST, NONE);
        }
    }

    /** "a CIRCLE and how often (1 .. 9)" */
    private static void timesAre1To9() {
        for (int times = 1; times <= 9; times++) {
            GongHouse x = new GongHouse();
            check.due(times + " times", x.part(0, times, NONE), 1);
            check.due("rounds", x.count(4), times);
            check.due("the last round", x.round(times - 1, 2), 0);
            check.due("beyond it", x.round(times, 2), BAD);
        }
        for (Twin house : houses) {
            house.refusesEach(BAD, new int[] {Calls.PART, 0, 1, NONE}, 2, 0, 10, -1, LEAST, MOST, NONE);
        }
    }

    /** "at a LEVEL of its own or (NONE) at the one that goes on" */
    private static void partLevelsAre0To3OrNone() {
        GongHouse x = new GongHouse();
        int[] told = {3, NONE, 0, NONE, 1, 2};
        int[] due = {3, 3, 0, 0, 1, 2};
        for (int part = 0; part < told.length; part++) {
            check.due("part of level " + told[part], x.part(0, 1, told[part]), part + 1);
        }
        for (int round = 0; round < due.length; round++) {
            check.due("level of round " + round, x.round(round, 1), due[round]);
        }
        for (Twin house : houses) {
            house.refusesEach(BAD, new int[] {Calls.PART, 0, 1, NONE}, 3, -1, 4, NONE - 1, NONE + 1, BAD, LEAST, MOST);
        }
    }

    /** part: "(SIGNALS stay.)" */
    private static void signalsStayWithAPart() {
        GongHouse x = new GongHouse();
        x.signal(0, 3);
        x.signal(1, 1);
        x.signal(143, 2);
        x.part(0, 1, NONE);
        check.due("signals behind a part", x.count(5), 3);
        x.part(0, 2, NONE);
        check.due("signals behind two parts", x.count(5), 3);
        int[] due = {0, 3, 1};
        for (int round = 0; round < 3; round++) {
            check.due("level of round " + round, x.round(round, 1), due[round]);
        }
        check.due("signal 143 stays", x.signal(143, NONE), 2);
    }

    /** "ROUNDS of a PIECE: all its CIRCLES, one behind the other, numbered from 0" */
    private static void roundsAreNumberedFrom0() {
        GongHouse x = new GongHouse();
        int[][] parts = {{2, 1}, {0, 3}, {3, 2}};
        for (int[] part : parts) {
            x.part(part[0], part[1], NONE);
        }
        int round = 0;
        for (int part = 0; part < parts.length; part++) {
            for (int time = 0; time < parts[part][1]; time++) {
                check.due("circle of round " + round, x.round(round, 0), parts[part][0]);
                check.due("part of round " + round, x.round(round, 2), part);
                round++;
            }
        }
        check.due("rounds", x.count(4), round);
        check.due("beyond the last", x.round(round, 0), BAD);
        check.due("ahead of the first", x.round(-1, 0), BAD);
        newHouse.refusesEach(BAD, new int[] {Calls.ROUND, 0, 0}, 1, 0, -1, 1, 143, LEAST, MOST, NONE);
        smallHouse.refusesEach(BAD, new int[] {Calls.ROUND, 0, 0}, 1, -1, 1, 143, LEAST, MOST, NONE);
        fullHouse.refusesEach(BAD, new int[] {Calls.ROUND, 0, 0}, 1, -1, 75, 143, 144, LEAST, MOST, NONE);
    }

    /** 16 PARTS of 9 times: the last ROUND is 143, as that of SIGNALS. */
    private static void thereAre144RoundsAtMost() {
        GongHouse x = new GongHouse();
        for (int part = 0; part < 16; part++) {
            x.part(part % 4, 9, NONE);
        }
        check.due("rounds", x.count(4), 144);
        for (int round = 0; round < 144; round++) {
            check.due("circle of round " + round, x.round(round, 0), round / 9 % 4);
            check.due("part of round " + round, x.round(round, 2), round / 9);
        }
        check.due("round 144", x.round(144, 0), BAD);
        check.due("it plays", x.plays(0, 143, 0, 0), NONE);
        check.due("round 144 plays", x.plays(0, 144, 0, 0), BAD);
    }

    /** round: "what 0 its CIRCLE, 1 its LEVEL, 2 its PART, 3 the TICK at which it begins. BAD" */
    private static void roundWhatIs0To3() {
        GongHouse x = new GongHouse();
        x.part(1, 1, 2);
        x.part(3, 1, 1);
        int[][] due = {{1, 2, 0, 0}, {3, 1, 1, 1024}};
        for (int round = 0; round < 2; round++) {
            for (int what = 0; what < 4; what++) {
                check.due("round(" + round + ", " + what + ")", x.round(round, what), due[round][what]);
            }
        }
        smallHouse.refusesEach(BAD, new int[] {Calls.ROUND, 0, 0}, 2, -1, 4, LEAST, MOST, NONE);
        fullHouse.refusesEach(BAD, new int[] {Calls.ROUND, 74, 0}, 2, -1, 4, LEAST, MOST, NONE);
    }

    /** "LEVEL is 0 as the PIECE begins" */
    private static void levelIs0AsThePieceBegins() {
        GongHouse x = new GongHouse();
        x.part(0, 2, 3);
        x.signal(143, 3);
        x.signal(1, 2);
        check.due("an own level", x.round(1, 1), 3);
        x.drop();
        x.part(0, 2, NONE);
        check.due("level of round 0", x.round(0, 1), 0);
        check.due("level of round 1", x.round(1, 1), 0);
    }

    /** "at the first ROUND of a PART with a LEVEL of its own it becomes that ... else it goes on" */
    private static void anOwnLevelComesWithThePartsFirstRound() {
        GongHouse x = new GongHouse();
        x.part(0, 2, NONE);
        x.part(0, 3, 2);
        x.part(0, 1, NONE);
        x.part(0, 2, 0);
        int[] due = {0, 0, 2, 2, 2, 2, 0, 0};
        for (int round = 0; round < due.length; round++) {
            check.due("level of round " + round, x.round(round, 1), due[round]);
        }
        // Only at its first round: a signal within the part holds for the rest of it
        x.signal(2, 3);
        check.due("the part's first round", x.round(2, 1), 2);
        check.due("its second", x.round(3, 1), 3);
        check.due("its third", x.round(4, 1), 3);
        check.due("the next part", x.round(5, 1), 3);
        check.due("an own level again", x.round(6, 1), 0);
    }

    /** "behind a ROUND with a SIGNAL it becomes what the SIGNAL tells": not in it, and from the next one on */
    private static void aSignalTellsBehindItsRound() {
        for (int level = 0; level < 4; level++) {
            GongHouse x = new GongHouse();
            x.part(0, 2, 1);
            x.part(1, 2, NONE);
            x.signal(1, level);
            int[] due = {1, 1, level, level};
            for (int round = 0; round < due.length; round++) {
                check.due("level of round " + round, x.round(round, 1), due[round]);
            }
        }
        // At the piece's last round it tells nothing yet, and does as soon as there is one more
        GongHouse x = new GongHouse();
        x.part(0, 1, NONE);
        x.signal(0, 3);
        check.due("ticks with a signal at the end", x.ticks(), 8 * 32);
        x.part(0, 1, NONE);
        check.due("level behind it", x.round(1, 1), 3);
        check.due("ticks", x.ticks(), 8 * 32 + 8 * 256);
    }

    /** A PART's own LEVEL comes at its first ROUND, a SIGNAL's behind the ROUND ahead: the later one stands. */
    private static void anOwnLevelStandsOverASignal() {
        GongHouse x = new GongHouse();
        x.part(0, 1, 2);
        x.part(0, 2, 1);
        x.signal(0, 3);
        int[] due = {2, 1, 1};
        for (int round = 0; round < due.length; round++) {
            check.due("level of round " + round, x.round(round, 1), due[round]);
        }
    }

    /** signal: "at a ROUND (0 .. 143; also beyond those that there are)" */
    private static void signalRoundsAre0To143() {
        GongHouse x = new GongHouse();
        check.due("signal at 0, no rounds", x.signal(0, 2), NONE);
        check.due("signal at 143, no rounds", x.signal(143, 3), NONE);
        check.due("signals", x.count(5), 2);
        check.due("signal at 0 again", x.signal(0, 1), 2);
        check.due("signal at 143 again", x.signal(143, 1), 3);
        for (Twin house : houses) {
            house.refusesEach(BAD, new int[] {Calls.SIGNAL, 0, 0}, 1, -1, 144, LEAST, MOST, NONE);
            house.refusesEach(BAD, new int[] {Calls.SIGNAL, 0, NONE}, 1, -1, 144, LEAST, MOST, NONE);
        }
    }

    /** signal: "tells a LEVEL (NONE: there is none there any more): what one there told (NONE)" */
    private static void signalLevelsAre0To3OrNone() {
        GongHouse x = new GongHouse();
        int before = NONE;
        for (int level : new int[] {NONE, 0, 1, 2, 3, 0, NONE, NONE, 3, NONE}) {
            check.due("signal " + level, x.signal(5, level), before);
            check.due("signals", x.count(5), level == NONE ? 0 : 1);
            before = level;
        }
        for (Twin house : houses) {
            house.refusesEach(BAD, new int[] {Calls.SIGNAL, 0, 0}, 2, -1, 4, NONE - 1, NONE + 1, BAD, LEAST, MOST);
        }
    }

    /** "20 SIGNALS at most"; signal: "FULL" */
    private static void signalsAre20AtMost() {
        GongHouse x = new GongHouse();
        Script script = new Script();
        for (int signal = 0; signal < 20; signal++) {
            check.due("signal " + signal, x.signal(143 - signal, signal % 4), NONE);
            check.due("signals", x.count(5), signal + 1);
            script.call(Calls.SIGNAL, 143 - signal, signal % 4);
        }
        check.due("signal 21", x.signal(0, 0), FULL);
        check.due("nothing to take away is not full", x.signal(0, NONE), NONE);
        check.due("one that is there", x.signal(143, 3), 0);
        check.due("signals", x.count(5), 20);
        check.due("still full", x.signal(123, 1), FULL);
        check.due("take one away", x.signal(124, NONE), 3);
        check.due("signals", x.count(5), 19);
        check.due("the 20th again", x.signal(0, 1), NONE);
        check.due("full again", x.signal(124, 1), FULL);
        Twin house = new Twin(check, script);
        house.refuses(FULL, Calls.SIGNAL, 0, 0);
        house.refuses(FULL, Calls.SIGNAL, 123, 3);
        fullHouse.refuses(FULL, Calls.SIGNAL, 1, 0);
        fullHouse.refuses(FULL, Calls.SIGNAL, 142, 3);
    }

    /** "one of a ROUND" */
    private static void oneSignalOfARound() {
        GongHouse x = new GongHouse();
        for (int time = 0; time < 25; time++) {
            check.due("signal again", x.signal(7, time % 4), time == 0 ? NONE : (time - 1) % 4);
        }
        check.due("signals", x.count(5), 1);
        check.due("take it away", x.signal(7, NONE), 0);
        check.due("signals", x.count(5), 0);
    }

    /** signal: "BAD; FULL", of several the one that stands first */
    private static void signalTellsTheFirstRefusal() {
        fullHouse.refuses(BAD, Calls.SIGNAL, 144, 0);
        fullHouse.refuses(BAD, Calls.SIGNAL, 1, 4);
        fullHouse.refuses(BAD, Calls.SIGNAL, 1, -1);
    }

    /** drop: "The PIECE has no PARTS and no SIGNALS: how many PARTS it had" */
    private static void dropLeavesNoPartsAndNoSignals() {
        GongHouse x = Script.ofFullHouse().made();
        check.due("drop 16", x.drop(), 16);
        check.due("parts", x.count(3), 0);
        check.due("rounds", x.count(4), 0);
        check.due("signals", x.count(5), 0);
        check.due("ticks", x.ticks(), 0);
        check.due("round 0", x.round(0, 0), BAD);
        check.due("drop 0", x.drop(), 0);
        for (int round = 0; round < 144; round++) {
            check.due("signal of round " + round, x.signal(round, NONE), NONE);
        }
        for (int signal = 0; signal < 20; signal++) {
            check.due("room for 20", x.signal(signal, 0), NONE);
        }
        check.due("drop of signals alone", x.drop(), 0);
        check.due("signals", x.count(5), 0);
    }

    /** A PIECE is its PARTS and SIGNALS: drop leaves CIRCLES, FIGURES, what is USED, SHEETS and THE TAPE. */
    private static void dropLeavesAllElse() {
        GongHouse x = Script.ofFullHouse().made();
        GongHouse y = Script.ofFullHouse().made();
        x.drop();
        for (int what : new int[] {0, 1, 2, 6}) {
            check.due("count(" + what + ") behind drop", x.count(what), y.count(what));
        }
        for (int beat = 0; beat < 32; beat++) {
            check.due("told behind drop", x.told(0, beat, 0), y.told(0, beat, 0));
        }
        for (int level = 0; level < 4; level++) {
            for (int which = 0; which < 3; which++) {
                check.due("use behind drop", x.use(level, which, 0), y.use(level, which, 0));
            }
            check.due("choice behind drop", x.choice(0, level), y.choice(0, level));
        }
        check.due("mark behind drop", x.mark(0, 15, 0), y.mark(0, 15, 0));
        check.due("tune behind drop", x.tune(0), y.tune(0));
    }

    /** "PLAYERS: 0 the skeleton ... 1 MAIN, 2 OTHER ... 3 gongs"; plays: "BAD" */
    private static void playersAre0To3() {
        GongHouse x = small.made();
        int[][] due = {{0, NONE, NONE, NONE}, {0, NONE, 1, NONE}, {NONE, 2, NONE, 3}, {1, NONE, NONE, NONE}};
        for (int player = 0; player < 4; player++) {
            for (int step = 0; step < 4; step++) {
                check.due("plays(" + player + ", 0, 0, " + step + ")", x.plays(player, 0, 0, step), due[player][step]);
            }
        }
        smallHouse.refusesEach(BAD, new int[] {Calls.PLAYS, 0, 0, 0, 0}, 1, -1, 4, LEAST, MOST, NONE);
        fullHouse.refusesEach(BAD, new int[] {Calls.PLAYS, 0, 0, 0, 0}, 1, -1, 4, LEAST, MOST, NONE);
    }

    /** plays: "at a STEP (0 .. less than there are at the ROUND's LEVEL) of a BEAT of a ROUND ... BAD" */
    private static void playsRoundsBeatsAndSteps() {
        for (int player = 0; player < 4; player++) {
            newHouse.refuses(BAD, Calls.PLAYS, player, 0, 0, 0);
            int[] told = {Calls.PLAYS, player, 0, 0, 0};
            smallHouse.refusesEach(BAD, told, 2, -1, 1, LEAST, MOST, NONE);
            smallHouse.refusesEach(BAD, told, 3, -1, 3, LEAST, MOST, NONE);
            smallHouse.refusesEach(BAD, told, 4, -1, 4, LEAST, MOST, NONE);
            for (int level = 0; level < 4; level++) {
                GongHouse x = new GongHouse();
                x.part(1, 1, level);
                x.part(0, 2, 3 - level);
                Check.tune(x, 0, "1G2");
                check.due("its first beat and step", x.plays(player, 2, 0, 0) == BAD ? 1 : 0, 0);
                check.due("its last beat and step", x.plays(player, 2, 1, STEPS[3 - level] - 1) == BAD ? 1 : 0, 0);
                check.due("a step beyond", x.plays(player, 2, 1, STEPS[3 - level]), BAD);
                check.due("a beat beyond", x.plays(player, 2, 2, 0), BAD);
                check.due("a round beyond", x.plays(player, 3, 0, 0), BAD);
                check.due("last beat and step of round 0", x.plays(player, 0, 7, STEPS[level] - 1), NONE);
                check.due("a step beyond, round 0", x.plays(player, 0, 7, STEPS[level]), BAD);
                check.due("a beat beyond, round 0", x.plays(player, 0, 8, 0), BAD);
            }
        }
    }

    /** "0 the skeleton: strikes the NOTE at a BEAT's first STEP" */
    private static void theSkeletonStrikesAtTheFirstStep() {
        for (int level = 0; level < 4; level++) {
            GongHouse x = new GongHouse();
            Check.tune(x, 0, "17G.L");
            x.part(0, 1, level);
            int[] notes = {0, 6, NONE};
            for (int beat = 0; beat < 3; beat++) {
                for (int step = 0; step < STEPS[level]; step++) {
                    check.due("skeleton at step " + step, x.plays(0, 0, beat, step), step == 0 ? notes[beat] : NONE);
                }
            }
            check.due("its strikes", x.strikes(0, 0), 2);
        }
    }

    /** "3 gongs: the GONG (its KIND) at a BEAT's first STEP" */
    private static void gongsStrikeAtTheFirstStep() {
        for (int level = 0; level < 4; level++) {
            GongHouse x = new GongHouse();
            Check.tune(x, 0, "1g.G3H4L5");
            x.part(0, 1, level);
            int[] kinds = {0, 1, 2, 3, NONE};
            for (int beat = 0; beat < 5; beat++) {
                for (int step = 0; step < STEPS[level]; step++) {
                    check.due("gongs at step " + step, x.plays(3, 0, beat, step), step == 0 ? kinds[beat] : NONE);
                }
            }
            check.due("their strikes", x.strikes(3, 0), 4);
        }
    }

    /** "1 MAIN, 2 OTHER: as told by FIGURES" that are USED at the ROUND's LEVEL, RIGHT or not; a BEAT without NOTE has a TONE. */
    private static void halvesStrikeAsToldByFigures() {
        for (int level = 0; level < 4; level++) {
            GongHouse x = new GongHouse();
            Check.tune(x, 0, "5.");
            x.part(0, 1, level);
            x.use(level, 0, 5);
            int last = STEPS[level] - 1;
            x.strike(level, 5, 0, 0, -4);
            x.strike(level, 5, 0, last, 4);
            x.strike(level, 5, 1, last, 0);
            for (int beat = 0; beat < 2; beat++) {
                check.due("main at the first step", x.plays(1, 0, beat, 0), 0);
                check.due("main at the last step", x.plays(1, 0, beat, last), 8);
                check.due("other at the first step", x.plays(2, 0, beat, 0), NONE);
                check.due("other at the last step", x.plays(2, 0, beat, last), 4);
            }
            check.due("it is not right", x.wrong(level, 5), 1);
        }
    }

    /** "A half DAMPS at a STEP the KEY that it struck last in this BEAT, if it strikes another one" */
    private static void aHalfDampsItsLastKey() {
        String[] rows = {"0123----------4a", "----------------", "0--------------1", "---------------1", "01--------------", "0-1-2-3-4-3-2-1-"};
        for (String row : rows) {
            for (int half = 0; half < 2; half++) {
                GongHouse x = new GongHouse();
                Check.tune(x, 0, "33");
                x.part(0, 1, 3);
                Check.half(x, 3, 0, half, row);
                int last = NONE;
                for (int step = 0; step < 16; step++) {
                    int struck = row.charAt(step) == '-' ? NONE : Check.shift(row.charAt(step)) + 2;
                    check.due("damps step " + step + " of " + row, x.damps(1 + half, 0, 1, step), struck == NONE ? NONE : last);
                    check.due("the half that is silent", x.damps(2 - half, 0, 1, step), NONE);
                    last = struck == NONE ? last : struck;
                }
            }
        }
    }

    /** "in this BEAT" */
    private static void aHalfDampsNothingOfTheBeatAhead() {
        for (int level = 0; level < 4; level++) {
            GongHouse x = new GongHouse();
            Check.tune(x, 0, "1G7");
            x.part(0, 2, level);
            x.strike(level, 0, 0, 0, 1);
            x.strike(level, 0, 0, STEPS[level] - 1, 2);
            for (int round = 0; round < 2; round++) {
                for (int beat = 0; beat < 2; beat++) {
                    check.due("at the first step", x.damps(1, round, beat, 0), NONE);
                    check.due("at the last step", x.damps(1, round, beat, STEPS[level] - 1), beat == 0 ? 1 : 7);
                }
            }
        }
    }

    /** "if it strikes another one": KEYS that are bent to the same one are the same */
    private static void aHalfDampsNoKeyThatItStrikesAgain() {
        GongHouse x = new GongHouse();
        Check.tune(x, 0, "17");
        x.part(0, 1, 1);
        // Over tone 0: keys 1 1 1 2; over tone 6: 2 7 7 8
        Check.half(x, 1, 0, 1, "d112");
        int[][] due = {{NONE, NONE, NONE, 1}, {NONE, 2, NONE, 7}};
        for (int beat = 0; beat < 2; beat++) {
            for (int step = 0; step < 4; step++) {
                check.due("damps(2, 0, " + beat + ", " + step + ")", x.damps(2, 0, beat, step), due[beat][step]);
            }
        }
        // 6 and 4 is bent to 5, as 6 and -1
        Check.half(x, 1, 0, 1, "4-a4");
        check.due("bent from above", x.damps(2, 0, 1, 2), NONE);
        check.due("bent from above again", x.damps(2, 0, 1, 3), NONE);
        // 0 and -1 is bent to 4, as 0 and 4
        check.due("bent from below", x.damps(2, 0, 0, 2), NONE);
        check.due("bent from below again", x.damps(2, 0, 0, 3), NONE);
    }

    /** damps: "a half (player 1, 2) ... BAD" */
    private static void dampsRefuses() {
        newHouse.refuses(BAD, Calls.DAMPS, 1, 0, 0, 0);
        newHouse.refuses(BAD, Calls.DAMPS, 2, 0, 0, 0);
        GongHouse x = small.made();
        check.due("main", x.damps(1, 0, 2, 2), 1);
        check.due("other", x.damps(2, 0, 2, 3), 3);
        smallHouse.refusesEach(BAD, new int[] {Calls.DAMPS, 1, 0, 0, 0}, 1, -1, 0, 3, 4, LEAST, MOST, NONE);
        fullHouse.refusesEach(BAD, new int[] {Calls.DAMPS, 1, 0, 0, 0}, 1, -1, 0, 3, 4, LEAST, MOST, NONE);
        for (int player = 1; player < 3; player++) {
            int[] told = {Calls.DAMPS, player, 0, 0, 0};
            smallHouse.refusesEach(BAD, told, 2, -1, 1, LEAST, MOST, NONE);
            smallHouse.refusesEach(BAD, told, 3, -1, 3, LEAST, MOST, NONE);
            smallHouse.refusesEach(BAD, told, 4, -1, 4, LEAST, MOST, NONE);
            fullHouse.refusesEach(BAD, told, 2, -1, 75, 144, LEAST, MOST, NONE);
            fullHouse.refusesEach(BAD, told, 3, -1, 32, LEAST, MOST, NONE);
            fullHouse.refusesEach(BAD, told, 4, -1, 2, 16, LEAST, MOST, NONE);
        }
    }

    /** strikes: "How often a PLAYER strikes in a ROUND" */
    private static void strikesOfNothingAndOfAll() {
        for (int level = 0; level < 4; level++) {
            GongHouse x = new GongHouse();
            x.part(0, 1, NONE);
            x.part(0, 1, level);
            for (int player = 0; player < 4; player++) {
                check.due("strikes of nothing", x.strikes(player, 1), 0);
            }
            Check.tune(x, 0, "1g".repeat(32));
            x.sheet(0, STEPS[level]);
            x.lay(level, 0, 0, 0);
            x.lay(level, 0, 1, 0);
            int[] due = {32, 32 * STEPS[level], 32 * STEPS[level], 32};
            for (int player = 0; player < 4; player++) {
                check.due("strikes of all", x.strikes(player, 1), due[player]);
            }
            check.due("in the round at level 0", x.strikes(1, 0), level == 0 ? 64 : 0);
        }
        // Each half its own, by the figure of each beat: the same in beat 0, higher in 1, lower in 2
        GongHouse x = new GongHouse();
        Check.tune(x, 0, "112");
        x.part(0, 1, 1);
        String[] main = {"0---", "00--", "0000"};
        String[] other = {"0000", "----", "---0"};
        for (int which = 0; which < 3; which++) {
            Check.half(x, 1, which + 1, 0, main[which]);
            Check.half(x, 1, which + 1, 1, other[which]);
            x.use(1, which, which + 1);
        }
        check.due("strikes of main", x.strikes(1, 0), 1 + 2 + 4);
        check.due("strikes of other", x.strikes(2, 0), 4 + 0 + 1);
    }

    /** strikes: "BAD" */
    private static void strikesRefuses() {
        newHouse.refuses(BAD, Calls.STRIKES, 0, 0);
        smallHouse.refusesEach(BAD, new int[] {Calls.STRIKES, 0, 0}, 1, -1, 4, LEAST, MOST, NONE);
        for (int player = 0; player < 4; player++) {
            smallHouse.refusesEach(BAD, new int[] {Calls.STRIKES, player, 0}, 2, -1, 1, LEAST, MOST, NONE);
            fullHouse.refusesEach(BAD, new int[] {Calls.STRIKES, player, 0}, 2, -1, 75, 144, LEAST, MOST, NONE);
        }
    }

    /** "a BEAT lasts 32 TICKS at LEVEL 0, twice as many at each further one" */
    private static void paceDoublesAtEachLevel() {
        for (int level = 0; level < 4; level++) {
            GongHouse x = new GongHouse();
            Check.tune(x, 3, "123");
            x.part(3, 2, level);
            check.due("the first round begins", x.round(0, 3), 0);
            check.due("the second begins", x.round(1, 3), 3 * PACE[level]);
            check.due("ticks", x.ticks(), 6 * PACE[level]);
            x.signal(0, 3 - level);
            check.due("the second begins, with a signal", x.round(1, 3), 3 * PACE[level]);
            check.due("ticks, with a signal", x.ticks(), 3 * PACE[level] + 3 * PACE[3 - level]);
        }
    }

    /** "TICKS of a PIECE: of all BEATS": none, and the most */
    private static void ticksOfNoPieceAndOfTheLongest() {
        GongHouse x = new GongHouse();
        check.due("ticks of no piece", x.ticks(), 0);
        x.signal(0, 3);
        check.due("ticks of a signal", x.ticks(), 0);
        x.drop();
        Check.tune(x, 2, "1".repeat(32));
        for (int part = 0; part < 16; part++) {
            x.part(2, 9, 3);
        }
        check.due("the most ticks", x.ticks(), 144 * 32 * 256);
        check.due("the last round begins", x.round(143, 3), 143 * 32 * 256);
        Check.tune(x, 2, "12");
        check.due("of fewer beats", x.ticks(), 144 * 2 * 256);
    }
}
