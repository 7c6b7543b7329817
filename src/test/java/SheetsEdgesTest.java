/** The sentences on sheets and counts that name an edge (Terms 4, promises 22 to 25), one test for each. */
public final class SheetsEdgesTest {
    private static final int BAD = GongHouse.BAD, NONE = GongHouse.NONE, NOTHING = GongHouse.NOTHING, INDEX = GongHouse.INDEX, SIZE = GongHouse.SIZE;
    private static final int LEAST = Integer.MIN_VALUE, MOST = Integer.MAX_VALUE;
    private static final Check check = new Check("SheetsEdgesTest");
    private static final Twin newHouse = new Twin(check, new Script());
    private static final Twin fullHouse = new Twin(check, Script.ofFullHouse());
    private static final Twin[] houses = {newHouse, fullHouse};

    public static void main(String[] args) {
        sheetsAre0And1();
        placesAre0To16();
        placesBelow0AreNoSize();
        sheetTellsTheFirstRefusal();
        allPlacesAre0();
        sheetsAreMissingAtFirst();
        markPlaces();
        markTellsTheFirstRefusal();
        markIsAByte();
        copySheets();
        copyOfAMissingSheet();
        copyPlaces();
        copyOfNone();
        copyOfFewerThanNone();
        copyAsTheyWere();
        copyTellsTheFirstRefusal();
        countWhatIs0To6();
        countsOfAFullHouse();
        check.end();
    }

    private static int read(GongHouse x, int sheet, int place) {
        int was = x.mark(sheet, place, 0);
        x.mark(sheet, place, was);
        return was;
    }

    /** "SHEETS 0, 1"; sheet and mark: "BAD: sheet" */
    private static void sheetsAre0And1() {
        GongHouse x = new GongHouse();
        check.due("sheet 0", x.sheet(0, 2), 2);
        check.due("sheet 1 is missing", x.mark(1, 0, 0), NOTHING);
        check.due("sheet 1", x.sheet(1, 3), 3);
        check.due("mark 0", x.mark(0, 1, 8), 0);
        check.due("mark 1", x.mark(1, 1, 9), 0);
        check.due("mark 0 again", x.mark(0, 1, 0), 8);
        check.due("mark 1 again", x.mark(1, 1, 0), 9);
        for (Twin house : houses) {
            house.refusesEach(BAD, new int[] {Calls.SHEET, 0, 1}, 1, -1, 2, LEAST, MOST, NONE);
            house.refusesEach(BAD, new int[] {Calls.MARK, 0, 0, 1}, 1, -1, 2, LEAST, MOST, NONE);
        }
    }

    /** "rows of bytes with 0 to 16 places"; sheet: "BAD: ... n above 16" */
    private static void placesAre0To16() {
        for (int n = 0; n <= 16; n++) {
            GongHouse x = new GongHouse();
            check.due("sheet(1, " + n + ")", x.sheet(1, n), n);
            check.due("the place behind the last", x.mark(1, n, 1), INDEX);
            check.due("the last place", x.mark(1, n - 1, 1), n == 0 ? INDEX : 0);
        }
        for (Twin house : houses) {
            for (int sheet = 0; sheet < 2; sheet++) {
                house.refusesEach(BAD, new int[] {Calls.SHEET, sheet, 0}, 2, 17, 18, 256, MOST);
            }
        }
    }

    /** sheet: "SIZE"; "SIZE: a number of places is below 0" */
    private static void placesBelow0AreNoSize() {
        for (Twin house : houses) {
            for (int sheet = 0; sheet < 2; sheet++) {
                house.refusesEach(SIZE, new int[] {Calls.SHEET, sheet, 0}, 2, -1, -2, -16, -256, LEAST, NONE);
            }
        }
    }

    /** sheet: "BAD: sheet, n above 16; SIZE", of several the one that stands first */
    private static void sheetTellsTheFirstRefusal() {
        for (Twin house : houses) {
            house.refuses(BAD, Calls.SHEET, 2, -1);
            house.refuses(BAD, Calls.SHEET, -1, -1);
            house.refuses(BAD, Calls.SHEET, 2, 17);
        }
    }

    /** sheet: "A SHEET has n places, all 0: n", those that it had among them */
    private static void allPlacesAre0() {
        for (int n = 0; n <= 16; n++) {
            GongHouse x = Script.ofFullHouse().made();
            for (int place = 0; place < 16; place++) {
                x.mark(0, place, 1 + place);
            }
            check.due("sheet(0, " + n + ")", x.sheet(0, n), n);
            for (int place = 0; place < n; place++) {
                check.due("place " + place, read(x, 0, place), 0);
            }
            check.due("no place behind them", x.mark(0, n, 0), INDEX);
            check.due("sheet(0, 16)", x.sheet(0, 16), 16);
            for (int place = 0; place < 16; place++) {
                check.due("place " + place, read(x, 0, place), 0);
            }
            check.due("the other one stays", read(x, 1, 3), 103);
        }
    }

    /** "or MISSING (at first)"; "NOTHING: a SHEET is MISSING"; a SHEET of 0 places is not MISSING */
    private static void sheetsAreMissingAtFirst() {
        for (int sheet = 0; sheet < 2; sheet++) {
            newHouse.refuses(NOTHING, Calls.MARK, sheet, 0, 1);
            newHouse.refuses(NOTHING, Calls.LAY, 0, 0, 0, sheet);
            newHouse.refuses(NOTHING, Calls.COPY, sheet, 0, sheet, 0, 0);
            GongHouse x = new GongHouse();
            check.due("no places", x.sheet(sheet, 0), 0);
            check.due("mark", x.mark(sheet, 0, 1), INDEX);
            check.due("lay", x.lay(0, 0, 0, sheet), 0);
            check.due("copy", x.copy(sheet, 0, sheet, 0, 0), 0);
            check.due("the other one is missing", x.mark(1 - sheet, 0, 1), NOTHING);
        }
    }

    /** mark: "INDEX"; "INDEX: there is no such place" */
    private static void markPlaces() {
        for (int n = 0; n <= 16; n++) {
            GongHouse x = new GongHouse();
            x.sheet(0, n);
            for (int place = 0; place < n; place++) {
                check.due("mark(0, " + place + ")", x.mark(0, place, 50 + place), 0);
            }
            for (int place = 0; place < n; place++) {
                check.due("mark(0, " + place + ") again", x.mark(0, place, 0), 50 + place);
            }
            Twin house = new Twin(check, new Script().call(Calls.SHEET, 0, n));
            house.refusesEach(INDEX, new int[] {Calls.MARK, 0, 0, 77}, 2, -1, n, 16, LEAST, MOST, NONE);
        }
        fullHouse.refusesEach(INDEX, new int[] {Calls.MARK, 1, 0, 77}, 2, -1, 4, 15, 16, LEAST, MOST);
    }

    /** mark: "BAD: sheet; NOTHING; INDEX", of several the one that stands first */
    private static void markTellsTheFirstRefusal() {
        newHouse.refuses(BAD, Calls.MARK, 2, -1, 0);
        newHouse.refuses(BAD, Calls.MARK, -1, 16, 0);
        newHouse.refuses(NOTHING, Calls.MARK, 0, -1, 0);
        newHouse.refuses(NOTHING, Calls.MARK, 1, 16, 0);
        fullHouse.refuses(BAD, Calls.MARK, 2, -1, 0);
    }

    /** mark: "becomes v (as a byte): what it was" */
    private static void markIsAByte() {
        GongHouse x = new GongHouse();
        x.sheet(0, 1);
        int[] told = {-128, 127, -129, 128, 255, 256, -256, 257, -1, 65535, 65536 + 127, LEAST, MOST, NONE, 0};
        int[] kept = {-128, 127, 127, -128, -1, 0, 0, 1, -1, -1, 127, 0, -1, (byte) NONE, 0};
        int before = 0;
        for (int i = 0; i < told.length; i++) {
            check.due("mark " + told[i], x.mark(0, 0, told[i]), before);
            before = kept[i];
        }
    }

    /** copy: "BAD" */
    private static void copySheets() {
        for (int from = 0; from < 2; from++) {
            for (int to = 0; to < 2; to++) {
                GongHouse x = new GongHouse();
                x.sheet(0, 2);
                x.sheet(1, 2);
                x.mark(from, 0, 7);
                check.due("copy from " + from + " to " + to, x.copy(from, 0, to, 1, 1), 1);
                check.due("what was copied", read(x, to, 1), 7);
                check.due("where it came from", read(x, from, 0), 7);
            }
        }
        for (Twin house : houses) {
            house.refusesEach(BAD, new int[] {Calls.COPY, 0, 0, 1, 0, 1}, 1, -1, 2, LEAST, MOST, NONE);
            house.refusesEach(BAD, new int[] {Calls.COPY, 0, 0, 1, 0, 1}, 3, -1, 2, LEAST, MOST, NONE);
        }
    }

    /** copy: "NOTHING", whichever of the two is MISSING */
    private static void copyOfAMissingSheet() {
        newHouse.refuses(NOTHING, Calls.COPY, 0, 0, 1, 0, 0);
        newHouse.refuses(NOTHING, Calls.COPY, 1, 0, 0, 0, 1);
        Twin house = new Twin(check, new Script().call(Calls.SHEET, 0, 4).call(Calls.MARK, 0, 1, 5));
        house.refuses(NOTHING, Calls.COPY, 0, 0, 1, 0, 1);
        house.refuses(NOTHING, Calls.COPY, 1, 0, 0, 0, 1);
        house.refuses(NOTHING, Calls.COPY, 1, 0, 1, 0, 0);
    }

    /** copy: "INDEX", for places that are not there on either SHEET; all that are there are taken */
    private static void copyPlaces() {
        Script script = new Script().call(Calls.SHEET, 0, 16).call(Calls.SHEET, 1, 4);
        for (int place = 0; place < 16; place++) {
            script.call(Calls.MARK, 0, place, 20 + place);
        }
        for (int place = -1; place <= 17; place++) {
            for (int at = -1; at <= 5; at++) {
                for (int many = 0; many <= 5; many++) {
                    boolean there = place >= 0 && place + many <= 16 && at >= 0 && at + many <= 4;
                    GongHouse x = script.made();
                    check.due("copy(0, " + place + ", 1, " + at + ", " + many + ")", x.copy(0, place, 1, at, many), there ? many : INDEX);
                    for (int p = 0; p < 4; p++) {
                        boolean copied = there && p >= at && p < at + many;
                        check.due("place " + p, read(x, 1, p), copied ? 20 + place + p - at : 0);
                    }
                }
            }
        }
        check.due("a whole sheet on itself", script.made().copy(0, 0, 0, 0, 16), 16);
        int[][] refused = {{0, 0, 5}, {0, 1, 4}, {0, 4, 1}, {13, 0, 4}, {16, 0, 1}, {-1, 0, 1}, {0, -1, 1}, {17, 0, 0}, {0, 5, 0}, {-1, 0, 0}, {0, -1, 0},
            {0, 0, 17}, {MOST, 0, 1}, {0, MOST, 1}, {0, 0, MOST}, {1, 1, MOST}, {MOST, MOST, MOST}, {LEAST, 0, 1}, {0, LEAST, 1}, {1, 1, LEAST}};
        for (int[] r : refused) {
            fullHouse.refuses(INDEX, Calls.COPY, 0, r[0], 1, r[1], r[2]);
            fullHouse.refuses(INDEX, Calls.COPY, 1, r[1], 0, r[0], r[2]);
        }
        fullHouse.refuses(INDEX, Calls.COPY, 0, 0, 0, 0, 17);
        fullHouse.refuses(INDEX, Calls.COPY, 0, 1, 0, 0, 16);
        fullHouse.refuses(INDEX, Calls.COPY, 0, 0, 0, 1, 16);
    }

    /** copy: "So many places", none among them, which may stand behind the last place (the document's words leave this open) */
    private static void copyOfNone() {
        GongHouse x = Script.ofFullHouse().made();
        check.due("none from the first", x.copy(0, 0, 1, 0, 0), 0);
        check.due("none from behind the last", x.copy(0, 16, 1, 4, 0), 0);
        check.due("a place stays", read(x, 1, 0), 100);
        check.due("a place stays", read(x, 1, 3), 103);
        fullHouse.refuses(INDEX, Calls.COPY, 0, 17, 1, 4, 0);
        fullHouse.refuses(INDEX, Calls.COPY, 0, 16, 1, 5, 0);
    }

    /** copy of fewer places than none: "BAD; NOTHING; INDEX" stand with it, and not SIZE */
    private static void copyOfFewerThanNone() {
        fullHouse.refusesEach(INDEX, new int[] {Calls.COPY, 0, 0, 1, 0, 0}, 5, -1, -4, LEAST, NONE);
        fullHouse.refusesEach(INDEX, new int[] {Calls.COPY, 0, 4, 1, 4, 0}, 5, -1, -4, LEAST, NONE);
        fullHouse.refusesEach(INDEX, new int[] {Calls.COPY, 0, 4, 0, 0, 0}, 5, -1, -4, LEAST, NONE);
    }

    /** copy: "to another one (or the same), as they were", where the places overlap too */
    private static void copyAsTheyWere() {
        for (int place = 0; place < 16; place++) {
            for (int at = 0; at < 16; at++) {
                int many = 16 - Math.max(place, at);
                GongHouse x = new GongHouse();
                x.sheet(1, 16);
                for (int p = 0; p < 16; p++) {
                    x.mark(1, p, 40 + p);
                }
                check.due("copy(1, " + place + ", 1, " + at + ", " + many + ")", x.copy(1, place, 1, at, many), many);
                for (int p = 0; p < 16; p++) {
                    boolean copied = p >= at && p < at + many;
                    check.due("place " + p, read(x, 1, p), copied ? 40 + place + p - at : 40 + p);
                }
            }
        }
    }

    /** copy: "BAD; NOTHING; INDEX", of several the one that stands first */
    private static void copyTellsTheFirstRefusal() {
        newHouse.refuses(BAD, Calls.COPY, 2, 0, 0, 0, 0);
        newHouse.refuses(BAD, Calls.COPY, 0, 0, 2, 0, 0);
        newHouse.refuses(BAD, Calls.COPY, -1, -1, 0, -1, -1);
        newHouse.refuses(BAD, Calls.COPY, 0, -1, -1, -1, -1);
        newHouse.refuses(NOTHING, Calls.COPY, 0, -1, 1, -1, -1);
        newHouse.refuses(NOTHING, Calls.COPY, 0, 17, 1, 17, 17);
        Twin house = new Twin(check, new Script().call(Calls.SHEET, 0, 4));
        house.refuses(BAD, Calls.COPY, 0, 9, 2, 0, 1);
        house.refuses(NOTHING, Calls.COPY, 0, 9, 1, 0, 1);
        house.refuses(NOTHING, Calls.COPY, 1, 0, 0, 9, 1);
        house.refuses(INDEX, Calls.COPY, 0, 9, 0, 0, 1);
    }

    /** count: "0 BEATS of all CIRCLES ... 6 bytes of THE TAPE. BAD" */
    private static void countWhatIs0To6() {
        GongHouse x = new GongHouse();
        int[] due = {32, 0, 0, 0, 0, 0, 0};
        for (int what = 0; what < due.length; what++) {
            check.due("count(" + what + ") at first", x.count(what), due[what]);
        }
        for (Twin house : houses) {
            house.refusesEach(BAD, new int[] {Calls.COUNT, 0}, 1, -1, 7, LEAST, MOST, NONE);
        }
    }

    /** count of as many as there can be */
    private static void countsOfAFullHouse() {
        GongHouse x = new GongHouse();
        for (int circle = 0; circle < 4; circle++) {
            check.due("beats ahead", x.count(0), 32 + 24 * circle);
            Check.tune(x, circle, "1g.G2H3L".repeat(8));
            check.due("gongs", x.count(1), 32 * (circle + 1));
        }
        check.due("beats of all circles", x.count(0), 128);
        int right = 0;
        for (int level = 0; level < 4; level++) {
            x.sheet(0, 2 << level);
            for (int figure = 0; figure < 6; figure++) {
                check.due("right figures", x.count(2), right);
                x.lay(level, figure, figure % 2, 0);
                right++;
            }
        }
        check.due("all figures are right", x.count(2), 24);
        for (int part = 0; part < 16; part++) {
            check.due("parts", x.count(3), part);
            check.due("rounds", x.count(4), 9 * part);
            x.part(0, 9, NONE);
        }
        for (int signal = 0; signal < 20; signal++) {
            check.due("signals", x.count(5), signal);
            x.signal(signal, 0);
        }
        Check.tape(x, "1".repeat(64));
        int[] due = {128, 128, 24, 16, 144, 20, 64};
        for (int what = 0; what < due.length; what++) {
            check.due("count(" + what + ") of all", x.count(what), due[what]);
        }
        x.trim(0);
        for (int circle = 0; circle < 4; circle++) {
            Check.tune(x, circle, "..");
        }
        check.due("the fewest beats", x.count(0), 8);
        check.due("no gongs", x.count(1), 0);
    }
}
