/** Promises 7 to 11: figures of two halves. */
public final class FiguresTest {
    private static final int BAD = GongHouse.BAD, NONE = GongHouse.NONE, NOTHING = GongHouse.NOTHING, INDEX = GongHouse.INDEX;
    private static final Check check = new Check("FiguresTest");

    public static void main(String[] args) {
        strikes();
        strikeRefuses();
        lays();
        layRefuses();
        togethers();
        wrongs();
        uses();
        check.end();
    }

    private static void strikes() {
        GongHouse x = new GongHouse();
        for (int level = 0; level < 4; level++) {
            int last = (2 << level) - 1;
            check.due("strike first", x.strike(level, 5, 0, last, -4), NONE);
            check.due("strike the other half", x.strike(level, 5, 1, last, 4), NONE);
            check.due("strike again", x.strike(level, 5, 0, last, 0), -4);
            check.due("strike nothing", x.strike(level, 5, 0, last, NONE), 0);
            check.due("strike after nothing", x.strike(level, 5, 0, last, 1), NONE);
            check.due("the other half stands", x.strike(level, 5, 1, last, NONE), 4);
            check.due("another figure", x.strike(level, 4, 0, last, NONE), NONE);
            check.due("step beyond", x.strike(level, 5, 0, last + 1, 0), BAD);
        }
    }

    private static void strikeRefuses() {
        GongHouse x = new GongHouse();
        x.strike(1, 0, 0, 0, 2);
        int[][] calls = {{-1, 0, 0, 0, 0}, {4, 0, 0, 0, 0}, {1, -1, 0, 0, 0}, {1, 6, 0, 0, 0}, {1, 0, -1, 0, 0},
            {1, 0, 2, 0, 0}, {1, 0, 0, -1, 0}, {1, 0, 0, 4, 0}, {1, 0, 0, 0, 5}, {1, 0, 0, 0, -5}, {1, 0, 0, 0, NONE + 1}};
        for (int[] c : calls) {
            check.due("strike refused", x.strike(c[0], c[1], c[2], c[3], c[4]), BAD);
        }
        check.due("strike stays", x.strike(1, 0, 0, 0, 2), 2);
    }

    private static void lays() {
        GongHouse x = new GongHouse();
        Check.half(x, 1, 2, 0, "1234");
        x.sheet(0, 3);
        x.mark(0, 0, -4);
        x.mark(0, 1, -5);
        x.mark(0, 2, 260);
        check.due("lay", x.lay(1, 2, 0, 0), 2);
        check.due("place 0", x.strike(1, 2, 0, 0, -4), -4);
        check.due("place 1, no shift", x.strike(1, 2, 0, 1, NONE), NONE);
        check.due("place 2, a byte", x.strike(1, 2, 0, 2, 4), 4);
        check.due("beyond the places", x.strike(1, 2, 0, 3, NONE), NONE);
        check.due("the other half stands", x.strike(1, 2, 1, 0, NONE), NONE);
        x.mark(0, 0, 127);
        x.mark(0, 1, 128);
        x.mark(0, 2, 5);
        check.due("lay no shifts", x.lay(1, 2, 1, 0), 0);
        x.sheet(1, 0);
        check.due("lay an empty sheet", x.lay(1, 2, 0, 1), 0);
        check.due("nothing is left", x.strike(1, 2, 0, 0, NONE), NONE);
        x.sheet(1, 16);
        check.due("lay 16 places", x.lay(3, 0, 1, 1), 16);
        check.due("they are 0", x.strike(3, 0, 1, 15, NONE), 0);
    }

    private static void layRefuses() {
        GongHouse x = new GongHouse();
        check.due("BAD ahead of NOTHING", x.lay(4, 0, 0, 0), BAD);
        check.due("missing", x.lay(0, 0, 0, 1), NOTHING);
        Check.half(x, 0, 0, 0, "12");
        x.sheet(0, 3);
        int[][] calls = {{-1, 0, 0, 0}, {4, 0, 0, 0}, {0, -1, 0, 0}, {0, 6, 0, 0}, {0, 0, -1, 0}, {0, 0, 2, 0}, {0, 0, 0, -1}, {0, 0, 0, 2}};
        for (int[] c : calls) {
            check.due("lay refused", x.lay(c[0], c[1], c[2], c[3]), BAD);
        }
        check.due("more places than steps", x.lay(0, 0, 0, 0), INDEX);
        check.due("the half stays", x.strike(0, 0, 0, 0, 1), 1);
        x.sheet(0, 2);
        check.due("as many places as steps", x.lay(0, 0, 0, 0), 2);
    }

    private static void togethers() {
        GongHouse x = new GongHouse();
        for (int level = 0; level < 4; level++) {
            int last = (2 << level) - 1;
            check.due("together at first", x.together(level, 3, last, 0), 0);
            check.due("together on", x.together(level, 3, last, 1), 0);
            check.due("together off", x.together(level, 3, last, 0), 1);
            check.due("together was off", x.together(level, 3, last, 1), 0);
            check.due("together beyond", x.together(level, 3, last + 1, 1), BAD);
        }
        int[][] calls = {{-1, 0, 0, 1}, {4, 0, 0, 1}, {0, -1, 0, 1}, {0, 6, 0, 1}, {0, 0, -1, 1}, {0, 0, 0, 2}, {0, 0, 0, -1}};
        for (int[] c : calls) {
            check.due("together refused", x.together(c[0], c[1], c[2], c[3]), BAD);
        }
    }

    private static void wrongs() {
        GongHouse x = new GongHouse();
        Check.half(x, 1, 0, 0, "0-1-");
        check.due("step 1 is not struck", x.wrong(1, 0), 1);
        Check.half(x, 1, 0, 1, "-2-d");
        check.due("right", x.wrong(1, 0), NONE);
        check.due("count of right ones", x.count(2), 1);
        Check.half(x, 1, 0, 1, "-224");
        check.due("both at step 2", x.wrong(1, 0), 2);
        x.together(1, 0, 2, 1);
        check.due("both where they may", x.wrong(1, 0), NONE);
        x.together(1, 0, 0, 1);
        check.due("they need not", x.wrong(1, 0), NONE);
        x.strike(1, 0, 0, 0, NONE);
        check.due("neither where both may", x.wrong(1, 0), 0);
        x.strike(1, 0, 1, 0, 0);
        check.due("one where both may", x.wrong(1, 0), NONE);
        x.together(1, 0, 2, 0);
        check.due("they may no more", x.wrong(1, 0), 2);
        check.due("wrong(-1, 0)", x.wrong(-1, 0), BAD);
        check.due("wrong(4, 0)", x.wrong(4, 0), BAD);
        check.due("wrong(0, -1)", x.wrong(0, -1), BAD);
        check.due("wrong(0, 6)", x.wrong(0, 6), BAD);
    }

    private static void uses() {
        GongHouse x = new GongHouse();
        for (int which = 0; which < 3; which++) {
            check.due("use", x.use(2, which, which + 3), 0);
        }
        for (int which = 0; which < 3; which++) {
            check.due("use again", x.use(2, which, 0), which + 3);
            check.due("another level", x.use(1, which, 0), 0);
        }
        int[][] calls = {{-1, 0, 0}, {4, 0, 0}, {0, -1, 0}, {0, 3, 0}, {0, 0, -1}, {0, 0, 6}};
        for (int[] c : calls) {
            check.due("use refused", x.use(c[0], c[1], c[2]), BAD);
        }
    }
}
