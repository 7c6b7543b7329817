/** Promises 22 to 25: sheets, and counts. */
public final class SheetsTest {
    private static final int BAD = GongHouse.BAD, NONE = GongHouse.NONE, NOTHING = GongHouse.NOTHING, INDEX = GongHouse.INDEX, SIZE = GongHouse.SIZE;
    private static final Check check = new Check("SheetsTest");

    public static void main(String[] args) {
        sheets();
        marks();
        copies();
        copyRefuses();
        counts();
        check.end();
    }

    private static void sheets() {
        GongHouse x = new GongHouse();
        check.due("sheet -1", x.sheet(-1, 1), BAD);
        check.due("sheet 2", x.sheet(2, 1), BAD);
        check.due("BAD ahead of SIZE", x.sheet(2, -1), BAD);
        check.due("17 places", x.sheet(0, 17), BAD);
        check.due("-1 places", x.sheet(0, -1), SIZE);
        check.due("NONE places", x.sheet(0, NONE), SIZE);
        check.due("still missing", x.mark(0, 0, 0), NOTHING);
        check.due("0 places", x.sheet(0, 0), 0);
        check.due("not missing", x.mark(0, 0, 0), INDEX);
        check.due("16 places", x.sheet(0, 16), 16);
        x.mark(0, 15, 7);
        check.due("refused", x.sheet(0, 17), BAD);
        check.due("refused", x.sheet(0, -1), SIZE);
        check.due("it stays", x.mark(0, 15, 7), 7);
        check.due("made anew", x.sheet(0, 16), 16);
        check.due("all 0", x.mark(0, 15, 7), 0);
        check.due("the other one is missing", x.mark(1, 0, 0), NOTHING);
    }

    private static void marks() {
        GongHouse x = new GongHouse();
        check.due("BAD ahead of NOTHING", x.mark(2, 0, 0), BAD);
        check.due("NOTHING ahead of INDEX", x.mark(0, -1, 0), NOTHING);
        x.sheet(1, 3);
        check.due("mark -1", x.mark(-1, 0, 0), BAD);
        check.due("place -1", x.mark(1, -1, 0), INDEX);
        check.due("place 3", x.mark(1, 3, 0), INDEX);
        int[] told = {1, -1, 127, 128, 255, 256, -128, -129, Integer.MAX_VALUE, Integer.MIN_VALUE};
        int[] kept = {1, -1, 127, -128, -1, 0, -128, 127, -1, 0};
        x.mark(1, 2, 0);
        int before = 0;
        for (int i = 0; i < told.length; i++) {
            check.due("mark " + told[i], x.mark(1, 2, told[i]), before);
            before = kept[i];
        }
    }

    private static GongHouse house() {
        GongHouse x = new GongHouse();
        x.sheet(0, 6);
        x.sheet(1, 4);
        for (int place = 0; place < 6; place++) {
            x.mark(0, place, 10 + place);
        }
        return x;
    }

    private static void copies() {
        GongHouse x = house();
        check.due("copy", x.copy(0, 1, 1, 2, 2), 2);
        isSheet(x, 1, 0, 0, 11, 12);
        check.due("copy on itself, on", x.copy(0, 0, 0, 1, 5), 5);
        isSheet(x, 0, 10, 10, 11, 12, 13, 14);
        check.due("copy on itself, back", x.copy(0, 2, 0, 0, 4), 4);
        isSheet(x, 0, 11, 12, 13, 14, 13, 14);
        check.due("copy all", x.copy(1, 0, 0, 2, 4), 4);
        isSheet(x, 0, 11, 12, 0, 0, 11, 12);
        check.due("copy none, at the ends", x.copy(0, 6, 1, 4, 0), 0);
        check.due("copy none", x.copy(0, 0, 1, 0, 0), 0);
        isSheet(x, 1, 0, 0, 11, 12);
    }

    private static void isSheet(GongHouse x, int sheet, int... due) {
        for (int place = 0; place < due.length; place++) {
            int was = x.mark(sheet, place, 0);
            check.due("place " + place + " of sheet " + sheet, was, due[place]);
            x.mark(sheet, place, was);
        }
    }

    private static void copyRefuses() {
        GongHouse y = new GongHouse();
        check.due("BAD ahead of NOTHING", y.copy(0, 0, 2, 0, 0), BAD);
        check.due("both missing", y.copy(0, -1, 1, 0, 0), NOTHING);
        y.sheet(0, 3);
        check.due("to is missing", y.copy(0, 9, 1, 0, 1), NOTHING);
        check.due("from is missing", y.copy(1, 0, 0, 9, 1), NOTHING);
        GongHouse x = house();
        check.due("from -1", x.copy(-1, 0, 0, 0, 1), BAD);
        check.due("from 2", x.copy(2, 0, 0, 0, 1), BAD);
        check.due("to -1", x.copy(0, 0, -1, 0, 1), BAD);
        check.due("to 2", x.copy(0, 0, 2, 0, 1), BAD);
        int most = Integer.MAX_VALUE;
        int[][] calls = {{-1, 0, 1}, {0, -1, 1}, {0, 0, 5}, {0, 1, 4}, {3, 0, 4}, {7, 0, 0}, {0, 5, 0}, {-1, 0, 0}, {0, -1, 0},
            {0, 0, -1}, {most, 0, 1}, {0, most, 1}, {1, 1, most}, {most, most, most}, {1, 1, Integer.MIN_VALUE}};
        for (int[] c : calls) {
            check.due("copy " + c[0] + " " + c[1] + " " + c[2], x.copy(0, c[0], 1, c[1], c[2]), INDEX);
        }
        isSheet(x, 0, 10, 11, 12, 13, 14, 15);
        isSheet(x, 1, 0, 0, 0, 0);
    }

    private static void counts() {
        GongHouse x = new GongHouse();
        Check.tune(x, 0, "1G2g3H4L");
        Check.tune(x, 3, "[1G.]9");
        check.due("beats", x.count(0), 4 + 8 + 8 + 18);
        check.due("gongs", x.count(1), 4 + 9);
        Check.half(x, 0, 0, 0, "00");
        Check.half(x, 3, 5, 0, "0-0-0-0-0-0-0-0-");
        Check.half(x, 3, 5, 1, "-0-0-0-0-0-0-0-0");
        Check.half(x, 2, 5, 1, "-0-0-0-0");
        check.due("right figures", x.count(2), 2);
        x.part(0, 4, 0);
        x.part(1, 9, 0);
        check.due("parts", x.count(3), 2);
        check.due("rounds", x.count(4), 13);
        x.signal(100, 1);
        x.signal(100, 2);
        x.signal(0, 2);
        check.due("signals", x.count(5), 2);
        x.feed(1, 2, 3);
        x.trim(7);
        check.due("bytes", x.count(6), 7);
        check.due("count(-1)", x.count(-1), BAD);
        check.due("count(7)", x.count(7), BAD);
    }
}
