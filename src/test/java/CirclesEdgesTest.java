/** The sentences on circles, gongs and the tape that name an edge (Terms 1, promises 1 to 6), one test for each. */
public final class CirclesEdgesTest {
    private static final int BAD = GongHouse.BAD, NO = GongHouse.NO, FULL = GongHouse.FULL, NONE = GongHouse.NONE;
    private static final int LEAST = Integer.MIN_VALUE, MOST = Integer.MAX_VALUE;
    private static final Check check = new Check("CirclesEdgesTest");
    private static final Twin newHouse = new Twin(check, new Script());
    private static final Twin fullHouse = new Twin(check, Script.ofFullHouse());

    public static void main(String[] args) {
        anObjectLastsFor512Calls();
        newObjectsShareNothing();
        circlesAre0To3();
        beatsAre2To32();
        beatsAre8AtFirst();
        beatsThatWereAreNoMore();
        notesAre0To6();
        kindsAre0To3();
        lyingIsUnderHangingAndAllAreGongs();
        aBeatWithoutGongHasNoKind();
        theTapeHas64BytesAtMost();
        feedTakesTheHighestByteFirst();
        trimKeepsTheFirstBytes();
        trimTakes0ToAllThereAre();
        theTapeIsUsedUpWhateverIsAnswered();
        nothingIsLeftOfTheTuneAhead();
        aTuneIsOneOrMore();
        whatGoesOnWithEachByte();
        repeatsAre2To9();
        noBracketWithin();
        theFaultIsTheFirstByte();
        theEndComesTooSoon();
        theCircleIsAskedFirst();
        aFaultStandsAheadOfNo();
        toneGoesRound();
        toneIs0IfNoneHasANote();
        toldWhatIs0To2();
        check.end();
    }

    /** "An object is used for at most 512 calls": the 512th still answers. */
    private static void anObjectLastsFor512Calls() {
        GongHouse x = new GongHouse();
        for (int call = 1; call < 511; call++) {
            x.strike(3, 5, 1, call % 16, call % 9 - 4);
        }
        check.due("call 511", x.strike(3, 5, 1, 510 % 16, 4), 510 % 9 - 4);
        check.due("call 512", x.strike(3, 5, 1, 510 % 16, 4), 4);
    }

    /** "Empty CIRCLES, no FIGURES told, no PIECE", whatever other objects have been told. */
    private static void newObjectsShareNothing() {
        GongHouse ahead = new GongHouse();
        Script.ofFullHouse().made();
        int[] due = {32, 0, 0, 0, 0, 0, 0};
        for (GongHouse x : new GongHouse[] {ahead, new GongHouse()}) {
            for (int what = 0; what < due.length; what++) {
                check.due("count(" + what + ") of another object", x.count(what), due[what]);
            }
            for (int circle = 0; circle < 4; circle++) {
                check.due("told of another object", x.told(circle, 0, 0), NONE);
                check.due("told of another object", x.told(circle, 0, 2), NONE);
            }
            check.due("use of another object", x.use(0, 0, 0), 0);
            check.due("mark of another object", x.mark(0, 0, 0), GongHouse.NOTHING);
        }
    }

    /** "CIRCLES 0 .. 3" */
    private static void circlesAre0To3() {
        GongHouse x = new GongHouse();
        for (int circle = 0; circle < 4; circle++) {
            check.due("tune(" + circle + ")", Check.tune(x, circle, "1g2g3g4g5g".substring(0, 4 + 2 * circle)), 2 + circle);
        }
        for (int circle = 0; circle < 4; circle++) {
            check.due("told(" + circle + ")", x.told(circle, 1 + circle, 0), 1 + circle);
            check.due("told(" + circle + ") beyond", x.told(circle, 2 + circle, 0), BAD);
            check.due("isOf(" + circle + ")", x.isOf(circle, 1 + circle, 0), 1);
        }
        for (Twin house : new Twin[] {newHouse, fullHouse}) {
            for (int circle : new int[] {-1, 4, LEAST, MOST, NONE}) {
                house.refusesAndUsesTape(BAD, Calls.TUNE, circle);
                house.refuses(BAD, Calls.TOLD, circle, 0, 0);
                house.refuses(BAD, Calls.IS_OF, circle, 0, 0);
            }
        }
    }

    /** "of 2 .. 32 BEATS"; "NO: there are not 2 .. 32 BEATS" */
    private static void beatsAre2To32() {
        String[] taken = {"11", "[1]2", "1G.L", "1".repeat(32), "[1]9[1]9[1]9[1]5", "[1234567.]4", "[12]9[1]9[1]5", "1g".repeat(32)};
        int[] beats = {2, 2, 2, 32, 32, 32, 32, 32};
        for (int i = 0; i < taken.length; i++) {
            GongHouse x = new GongHouse();
            check.due(taken[i], Check.tune(x, 2, taken[i]), beats[i]);
            check.due("its last beat", x.told(2, beats[i] - 1, 1) >= 0 ? 1 : 0, 1);
            check.due("beyond its last beat", x.told(2, beats[i], 1), BAD);
            check.due("all beats", x.count(0), 24 + beats[i]);
        }
        String[] refused = {"1", ".", "1G", ".L", "1".repeat(33), "[1]9[1]9[1]9[1]6", "[1234567.]41", "1[1234567.]4",
            "1".repeat(33) + "G", "1".repeat(64), "[" + "1".repeat(61) + "]9", "1".repeat(59) + "[1g]9", "[1G2]9[3H4]9"};
        for (String text : refused) {
            Twin house = new Twin(check, new Script().tune(0, "1G2g3H4L").tune(1, "[7L]9").tape(text));
            house.refusesAndUsesTape(NO, Calls.TUNE, 0);
            house.refusesAndUsesTape(NO, Calls.TUNE, 3);
        }
    }

    /** "(8 at first): each BEAT has a NOTE 0 .. 6 or none (none at first), and may have a GONG" */
    private static void beatsAre8AtFirst() {
        GongHouse x = new GongHouse();
        for (int circle = 0; circle < 4; circle++) {
            for (int beat = 0; beat < 8; beat++) {
                check.due("new note", x.told(circle, beat, 0), NONE);
                check.due("new tone", x.told(circle, beat, 1), 0);
                check.due("new gong", x.told(circle, beat, 2), NONE);
                check.due("new isOf", x.isOf(circle, beat, 0), NO);
            }
            newHouse.refuses(BAD, Calls.TOLD, circle, 8, 0);
            newHouse.refuses(BAD, Calls.TOLD, circle, -1, 0);
            newHouse.refuses(BAD, Calls.IS_OF, circle, 8, 0);
            newHouse.refuses(BAD, Calls.IS_OF, circle, -1, 0);
        }
    }

    /** "It has as many BEATS as there are then": told and isOf end with them, and a shorter TUNE leaves nothing of a longer one. */
    private static void beatsThatWereAreNoMore() {
        GongHouse x = new GongHouse();
        Check.tune(x, 1, "[7G]9[7G]9[7G]9[7G]5");
        check.due("beat 31", x.told(1, 31, 0), 6);
        check.due("beat 32", x.told(1, 32, 0), BAD);
        check.due("isOf beat 31", x.isOf(1, 31, 1), 1);
        check.due("isOf beat 32", x.isOf(1, 32, 1), BAD);
        Check.tune(x, 1, ".2.");
        check.due("beat 2", x.told(1, 2, 0), NONE);
        check.due("beat 3", x.told(1, 3, 0), BAD);
        check.due("isOf beat 3", x.isOf(1, 3, 1), BAD);
        check.due("tone of beat 0", x.told(1, 0, 1), 1);
        check.due("gong of beat 0", x.told(1, 0, 2), NONE);
        check.due("gongs", x.count(1), 0);
        Check.tune(x, 1, "....");
        check.due("tone of no note", x.told(1, 3, 1), 0);
        int[] refused = {-1, 7, 32, LEAST, MOST, NONE};
        fullHouse.refusesEach(BAD, new int[] {Calls.TOLD, 2, 0, 1}, 2, refused);
        fullHouse.refusesEach(BAD, new int[] {Calls.IS_OF, 2, 0, 0}, 2, refused);
    }

    /** "for a BEAT a digit 1 .. 7 (its NOTE and 1) or . (none)" */
    private static void notesAre0To6() {
        GongHouse x = new GongHouse();
        check.due("tune", Check.tune(x, 0, "1234567."), 8);
        for (int beat = 0; beat < 7; beat++) {
            check.due("note of " + (beat + 1), x.told(0, beat, 0), beat);
        }
        check.due("note of .", x.told(0, 7, 0), NONE);
        check.due("a digit 0", Check.tune(x, 0, "10"), -101);
        check.due("a digit 8", Check.tune(x, 0, "18"), -101);
        check.due("the note stays", x.told(0, 6, 0), 6);
    }

    /** "0 GONG, 1 GREAT, 2 HANGING, 3 LYING"; "G g H L (a GREAT, GONG of KIND 0, HANGING, LYING one)"; isOf: "BAD" */
    private static void kindsAre0To3() {
        GongHouse x = new GongHouse();
        Check.tune(x, 0, "1G2g3H4L5");
        int[] kinds = {1, 0, 2, 3, NONE};
        for (int beat = 0; beat < 5; beat++) {
            check.due("kind of beat " + beat, x.told(0, beat, 2), kinds[beat]);
        }
        check.due("gongs", x.count(1), 4);
        fullHouse.refusesEach(BAD, new int[] {Calls.IS_OF, 0, 0, 0}, 3, -1, 4, LEAST, MOST, NONE);
    }

    /** "3 LYING, under HANGING (all are GONGS)" */
    private static void lyingIsUnderHangingAndAllAreGongs() {
        GongHouse x = new GongHouse();
        Check.tune(x, 3, "1g2G3H4L");
        int[][] due = {{1, 0, 0, 0}, {1, 1, 0, 0}, {1, 0, 1, 0}, {1, 0, 1, 1}};
        for (int beat = 0; beat < 4; beat++) {
            for (int kind = 0; kind < 4; kind++) {
                check.due("isOf(3, " + beat + ", " + kind + ")", x.isOf(3, beat, kind), due[beat][kind]);
            }
        }
    }

    /** isOf: "BAD; NO: it has none" */
    private static void aBeatWithoutGongHasNoKind() {
        for (int kind = 0; kind < 4; kind++) {
            newHouse.refuses(NO, Calls.IS_OF, 3, 7, kind);
            fullHouse.refuses(NO, Calls.IS_OF, 0, 17, kind);
        }
        newHouse.refusesEach(BAD, new int[] {Calls.IS_OF, 3, 7, 0}, 3, -1, 4);
    }

    /** "THE TAPE (64 bytes at most"; "FULL: it would have more than 64" */
    private static void theTapeHas64BytesAtMost() {
        for (int had = 0; had <= 64; had++) {
            String bytes = "1G2g3H4L".repeat(8).substring(0, had);
            GongHouse x = new Script().tape(bytes).made();
            check.due("bytes ahead of feed", x.count(6), had);
            check.due("feed behind " + had, x.feed(0, 0, 0), had <= 52 ? had + 12 : FULL);
            check.due("bytes behind feed", x.count(6), had <= 52 ? had + 12 : had);
            if (had == 53 || had == 64) {
                new Twin(check, new Script().tape(bytes)).refuses(FULL, Calls.FEED, 0, 0, 0);
            }
        }
        fullHouse.refuses(FULL, Calls.FEED, 0x31313131, MOST, LEAST);
    }

    /** "Twelve bytes come to THE TAPE, the highest of each number first", behind those that it has. */
    private static void feedTakesTheHighestByteFirst() {
        GongHouse x = new GongHouse();
        check.due("feed", x.feed(0x31323334, 0x35363731, 0x32333435), 12);
        check.due("trim", x.trim(11), 11);
        check.due("feed again", x.feed(0x37363534, 0x33323137, 0x36353433), 23);
        check.due("tune", x.tune(1), 23);
        String due = "12345671234" + "765432176543";
        for (int beat = 0; beat < 23; beat++) {
            check.due("byte " + beat, x.told(1, beat, 0), due.charAt(beat) - '1');
        }
        // A byte above 127 is a fault where it stands, and takes none of the others with it
        int[][] fed = {{0xB1313131, 0x31313131, 0x31313131}, {0x31B13131, 0x31313131, 0x31313131},
            {0x31313131, 0x313131FF, 0x31313131}, {0x31313131, 0x31313131, 0x31313180}};
        int[] places = {0, 1, 7, 11};
        for (int i = 0; i < fed.length; i++) {
            x.feed(fed[i][0], fed[i][1], fed[i][2]);
            check.due("a byte above 127 at " + places[i], x.tune(1), -100 - places[i]);
        }
    }

    /** "THE TAPE keeps its first n bytes: n" */
    private static void trimKeepsTheFirstBytes() {
        for (int n = 2; n <= 12; n++) {
            GongHouse x = new GongHouse();
            x.feed(0x31323334, 0x35363731, 0x32333435);
            check.due("trim", x.trim(n), n);
            check.due("tune", x.tune(0), n);
            check.due("first byte", x.told(0, 0, 0), 0);
            check.due("last byte", x.told(0, n - 1, 0), (n - 1) % 7);
        }
    }

    /** trim: "BAD" below 0, and for more bytes than there are. */
    private static void trimTakes0ToAllThereAre() {
        for (int had = 0; had <= 64; had++) {
            String bytes = "1G2g3H4L".repeat(8).substring(0, had);
            GongHouse x = new Script().tape(bytes).made();
            check.due("trim(-1) of " + had, x.trim(-1), BAD);
            check.due("trim of " + had + " to one more", x.trim(had + 1), BAD);
            check.due("the bytes stay", x.count(6), had);
            check.due("trim of " + had + " to all", x.trim(had), had);
            check.due("trim of " + had + " to 0", x.trim(0), 0);
            check.due("no bytes", x.count(6), 0);
            check.due("nothing comes back", x.trim(1), BAD);
        }
        newHouse.refusesEach(BAD, new int[] {Calls.TRIM, 0}, 1, -1, 1, 64, 65, LEAST, MOST, NONE);
        fullHouse.refusesEach(BAD, new int[] {Calls.TRIM, 0}, 1, -1, 61, 64, 65, LEAST, MOST, NONE);
    }

    /** "an act that reads it uses it up, whatever it answers" */
    private static void theTapeIsUsedUpWhateverIsAnswered() {
        String[] texts = {"12", "1", "1x", "[1", "1".repeat(33), "12", "1x"};
        int[] circles = {0, 0, 0, 0, 0, 4, -1};
        int[] due = {2, NO, -101, -102, NO, BAD, BAD};
        for (int i = 0; i < texts.length; i++) {
            GongHouse x = new GongHouse();
            check.due("tune of " + texts[i], Check.tune(x, circles[i], texts[i]), due[i]);
            check.due("bytes left", x.count(6), 0);
            check.due("trim to 1", x.trim(1), BAD);
            check.due("nothing to read", x.tune(1), -100);
            check.due("feed", x.feed(0x31323300, 0, 0), 12);
            x.trim(3);
            check.due("tune anew", x.tune(1), 3);
        }
        // No other act reads it
        GongHouse x = Script.ofFullHouse().made();
        int[][] acts = {{Calls.LAY, 3, 0, 0, 0}, {Calls.CHOICE, 0, 0}, {Calls.TICKS}, {Calls.DROP}, {Calls.SHEET, 0, 16},
            {Calls.COPY, 0, 0, 1, 0, 4}, {Calls.COUNT, 6}, {Calls.PART, 0, 1, 0}, {Calls.SIGNAL, 0, 0}, {Calls.TRIM, -1}};
        for (int[] act : acts) {
            Calls.call(x, act);
            check.due("bytes behind another act", x.count(6), 60);
        }
    }

    /** "uses it up": a TUNE is read from its own first byte on, wherever the one ahead of it broke off */
    private static void nothingIsLeftOfTheTuneAhead() {
        String[] ahead = {"12", "1", "1G", "1x", "[", "[1", "[1G", "[12]", "[12]x", "[12]2", "12[3]2", "1".repeat(33), "[1]9[1]9[1]9[1]9"};
        String[] texts = {"34", "G3", "]2", "[3]2", "23", "2", ".L5"};
        int[] due = {2, -100, -100, 2, 2, NO, 2};
        for (String first : ahead) {
            for (int circle : new int[] {0, 4}) {
                for (int i = 0; i < texts.length; i++) {
                    GongHouse x = new GongHouse();
                    Check.tune(x, circle, first);
                    check.due(texts[i] + " behind " + first, Check.tune(x, 1, texts[i]), due[i]);
                }
            }
            GongHouse x = new GongHouse();
            Check.tune(x, 0, first);
            check.due("no byte behind " + first, x.tune(0), -100);
        }
    }

    /** "one or more of these" */
    private static void aTuneIsOneOrMore() {
        new Twin(check, new Script().tune(0, "1G2")).refuses(-100, Calls.TUNE, 0);
        GongHouse x = new GongHouse();
        check.due("one of them", Check.tune(x, 0, "[12]2"), 4);
        check.due("several", Check.tune(x, 0, "1[2]2[3]23[4]2"), 8);
        check.due("none within [", Check.tune(x, 0, "12[]2"), -103);
    }

    /** "FAULT: the place of the first byte with which no TUNE goes on", for each byte behind each kind of beginning. */
    private static void whatGoesOnWithEachByte() {
        String[] heads = {"", "1", ".", "1G", ".L", "[", "[1", "[.", "[1G", "[1]", "[1g]", "[1]2", "[1]9", "1[", "1[2", "1[2]", "12", "[1]2[3", "[1]2[3]"};
        String[] goOn = {"1234567.[", "1234567.[GgHL", "1234567.[GgHL", "1234567.[", "1234567.[", "1234567.", "1234567.]GgHL", "1234567.]GgHL", "1234567.]",
            "23456789", "23456789", "1234567.[", "1234567.[", "1234567.", "1234567.]GgHL", "23456789", "1234567.[GgHL", "1234567.]GgHL", "23456789"};
        for (int i = 0; i < heads.length; i++) {
            for (int sign = 0; sign < 256; sign++) {
                GongHouse x = new GongHouse();
                String text = heads[i] + (char) sign;
                boolean goesOn = goOn[i].indexOf(sign) >= 0;
                int got = Check.tune(x, 0, text);
                if (goesOn) {
                    check.holds(text + " goes on", got != -100 - heads[i].length());
                } else {
                    check.due("fault in " + heads[i] + " and byte " + sign, got, -100 - heads[i].length());
                    check.due("the circle stays", x.count(0), 32);
                }
            }
        }
    }

    /** "] and a digit 2 .. 9: what stands between so often" */
    private static void repeatsAre2To9() {
        GongHouse x = new GongHouse();
        for (int often = 2; often <= 9; often++) {
            check.due("[3G.]" + often, Check.tune(x, 0, "[3G.]" + often + "7"), 2 * often + 1);
            for (int time = 0; time < often; time++) {
                check.due("note of time " + time, x.told(0, 2 * time, 0), 2);
                check.due("gong of time " + time, x.told(0, 2 * time, 2), 1);
                check.due("the next one's note", x.told(0, 2 * time + 1, 0), NONE);
                check.due("the next one's gong", x.told(0, 2 * time + 1, 2), NONE);
            }
            check.due("behind it", x.told(0, 2 * often, 0), 6);
        }
        for (char often : new char[] {'0', '1', ':', '/', '.', ']', '['}) {
            Twin house = new Twin(check, new Script().tune(0, "1G2").tape("[12]" + often));
            house.refusesAndUsesTape(-104, Calls.TUNE, 0);
        }
    }

    /** "(no [ within)" */
    private static void noBracketWithin() {
        new Twin(check, new Script().tape("[[1]2]2")).refusesAndUsesTape(-101, Calls.TUNE, 0);
        new Twin(check, new Script().tape("[1[2]2]2")).refusesAndUsesTape(-102, Calls.TUNE, 0);
        new Twin(check, new Script().tape("[1G[2]2]2")).refusesAndUsesTape(-103, Calls.TUNE, 0);
        GongHouse x = new GongHouse();
        check.due("[ behind ] and its digit", Check.tune(x, 0, "[1]2[2]2"), 4);
    }

    /** "the place of the first byte with which no TUNE goes on": the first place, the last one, and of several faults the first */
    private static void theFaultIsTheFirstByte() {
        String[] texts = {"x", "G", "]", "x".repeat(64), "1x2x", "1".repeat(63) + "x", "1".repeat(63) + "]", "1".repeat(32) + "x", "12]x"};
        int[] places = {0, 0, 0, 0, 1, 63, 63, 32, 2};
        for (int i = 0; i < texts.length; i++) {
            Twin house = new Twin(check, new Script().tune(0, "1G2g3H4L").tape(texts[i]));
            house.refusesAndUsesTape(-100 - places[i], Calls.TUNE, 0);
        }
    }

    /** "the end (the place behind the last byte), if it comes too soon" */
    private static void theEndComesTooSoon() {
        String[] texts = {"", "[", "[1", "[1G", "[1]", "12[", "12[3]", "1".repeat(63) + "[", "[" + "1".repeat(63), "[" + "1".repeat(62) + "]"};
        for (String text : texts) {
            Twin house = new Twin(check, new Script().tune(0, "1G2g3H4L").tape(text));
            house.refusesAndUsesTape(-100 - text.length(), Calls.TUNE, 0);
        }
    }

    /** tune: "BAD: circle (asked first)" */
    private static void theCircleIsAskedFirst() {
        for (String text : new String[] {"", "1x", "1", "1".repeat(33), "12"}) {
            Twin house = new Twin(check, new Script().tape(text));
            house.refusesAndUsesTape(BAD, Calls.TUNE, -1);
            house.refusesAndUsesTape(BAD, Calls.TUNE, 4);
        }
    }

    /** tune: "-100 less the place of its fault; NO": a fault is told though there are too few BEATS, or too many ahead of it. */
    private static void aFaultStandsAheadOfNo() {
        GongHouse x = new GongHouse();
        check.due("one beat and a fault", Check.tune(x, 0, "1x"), -101);
        check.due("33 beats and a fault", Check.tune(x, 0, "1".repeat(33) + "x"), -133);
        check.due("126 beats and a fault", Check.tune(x, 0, "[1234567]9[1234567]9]"), -120);
        check.due("63 beats and the end", Check.tune(x, 0, "[1234567]9["), -111);
        check.due("33 beats, a gong and a fault", Check.tune(x, 0, "1".repeat(33) + "GG"), -134);
    }

    /** "without one that of the latest BEAT ahead of it that has one (round the CIRCLE)" */
    private static void toneGoesRound() {
        String[] texts = {".7", "7.", "..3", "3..", ".3.", "1.2.3", "..3.5..", "." + "1".repeat(30) + "6", "5" + ".".repeat(31)};
        String[] tones = {"66", "66", "222", "222", "222", "00112", "4422444", "5" + "0".repeat(30) + "5", "4".repeat(32)};
        for (int i = 0; i < texts.length; i++) {
            GongHouse x = new GongHouse();
            Check.tune(x, 0, texts[i]);
            for (int beat = 0; beat < tones[i].length(); beat++) {
                check.due("tone of beat " + beat + " of " + texts[i], x.told(0, beat, 1), tones[i].charAt(beat) - '0');
            }
        }
    }

    /** "0, if none has" */
    private static void toneIs0IfNoneHasANote() {
        GongHouse x = new GongHouse();
        for (String text : new String[] {"..", ".G.L", ".".repeat(32)}) {
            Check.tune(x, 0, "77");
            int beats = Check.tune(x, 0, text);
            check.due("tone of the first beat", x.told(0, 0, 1), 0);
            check.due("tone of the last beat", x.told(0, beats - 1, 1), 0);
        }
    }

    /** told: "what 0 NOTE (NONE), 1 TONE, 2 the KIND of its GONG (NONE). BAD" */
    private static void toldWhatIs0To2() {
        GongHouse x = new GongHouse();
        Check.tune(x, 0, "5.H");
        int[][] due = {{4, 4, NONE}, {NONE, 4, 2}};
        for (int beat = 0; beat < 2; beat++) {
            for (int what = 0; what < 3; what++) {
                check.due("told(0, " + beat + ", " + what + ")", x.told(0, beat, what), due[beat][what]);
            }
        }
        newHouse.refusesEach(BAD, new int[] {Calls.TOLD, 0, 0, 0}, 3, -1, 3, LEAST, MOST, NONE);
        fullHouse.refusesEach(BAD, new int[] {Calls.TOLD, 0, 0, 0}, 3, -1, 3, LEAST, MOST, NONE);
    }
}
