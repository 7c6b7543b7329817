/** Promises 20 and 21: leaps, and the figures that leap least. */
public final class LeapsTest {
    private static final int BAD = GongHouse.BAD, NO = GongHouse.NO, NONE = GongHouse.NONE;
    private static final Check check = new Check("LeapsTest");

    public static void main(String[] args) {
        leaps();
        leapsBent();
        leapsRefuses();
        choices();
        choiceRefuses();
        check.end();
    }

    private static void leaps() {
        GongHouse x = new GongHouse();
        Check.tune(x, 1, "1135");
        Check.half(x, 0, 0, 0, "0-");
        Check.half(x, 0, 0, 1, "-2");
        Check.half(x, 0, 1, 0, "11");
        Check.half(x, 0, 2, 0, "-0");
        Check.half(x, 0, 2, 1, "a4");
        x.together(0, 2, 1, 1);
        // Keys: same 0 2, higher 1 1, higher 3 3, lower 3 4
        check.due("leaps 012", x.leaps(1, 0, 12), 2 + 1 + 0 + 2 + 0 + 0 + 1 + 4);
        // Keys: 0 2, 0 2, 2 4, 4 6
        check.due("leaps 0", x.leaps(1, 0, 0), 2 + 2 + 2 + 0 + 2 + 0 + 2 + 6);
        // Keys: 1 1, 1 1, 3 3, 5 5
        check.due("leaps 111", x.leaps(1, 0, 111), 2 + 2 + 4);
        check.due("what is used stays", x.use(0, 1, 0), 0);
    }

    private static void leapsBent() {
        GongHouse x = new GongHouse();
        Check.tune(x, 0, "17");
        Check.half(x, 1, 5, 0, "d-4-");
        Check.half(x, 1, 5, 1, "-a-3");
        // Keys: 1 4 4 3, 2 5 5 9
        check.due("leaps 555", x.leaps(0, 1, 555), 3 + 0 + 1 + 1 + 3 + 0 + 4 + 8);
    }

    private static void leapsRefuses() {
        GongHouse x = new GongHouse();
        Check.half(x, 0, 0, 0, "00");
        check.due("right", x.leaps(0, 0, 0), 0);
        check.due("circle -1", x.leaps(-1, 0, 0), BAD);
        check.due("circle 4", x.leaps(4, 0, 0), BAD);
        check.due("level -1", x.leaps(0, -1, 0), BAD);
        check.due("level 4", x.leaps(0, 4, 0), BAD);
        int[] bad = {-1, 6, 9, 60, 90, 600, 900, 556, 560, 1000, 1110, -100, Integer.MAX_VALUE, Integer.MIN_VALUE};
        for (int figures : bad) {
            check.due("figures " + figures, x.leaps(0, 0, figures), BAD);
        }
        int[] no = {1, 10, 100, 555, 5, 50, 500};
        for (int figures : no) {
            check.due("figures " + figures, x.leaps(0, 0, figures), NO);
        }
        check.due("BAD ahead of NO", x.leaps(0, 0, 16), BAD);
    }

    private static void choices() {
        GongHouse x = new GongHouse();
        Check.half(x, 0, 3, 0, "03");
        check.due("one figure is right", x.choice(0, 0), 333);
        Check.half(x, 0, 4, 1, "22");
        // All beats are the same: the others do not matter, and the first stands
        check.due("of the same tone", x.choice(0, 0), 433);
        Check.half(x, 0, 1, 0, "11");
        check.due("the first of several", x.choice(0, 0), 111);
        x.strike(0, 1, 1, 0, 0);
        check.due("not right any more", x.choice(0, 0), 433);
        x.together(0, 1, 0, 1);
        check.due("right again", x.choice(0, 0), 111);
        Check.tune(x, 0, "15");
        int choice = x.choice(0, 0);
        for (int a : new int[] {1, 3, 4}) {
            for (int b : new int[] {1, 3, 4}) {
                for (int c : new int[] {1, 3, 4}) {
                    int three = 100 * a + 10 * b + c;
                    int more = x.leaps(0, 0, three) - x.leaps(0, 0, choice);
                    check.holds("no three ahead of " + choice + " is as good: " + three, three < choice ? more > 0 : more >= 0);
                }
            }
        }
        check.due("what is used stays", x.use(0, 0, 0), 0);
    }

    private static void choiceRefuses() {
        GongHouse x = new GongHouse();
        check.due("no figure is right", x.choice(0, 0), NO);
        check.due("circle -1", x.choice(-1, 0), BAD);
        check.due("circle 4", x.choice(4, 0), BAD);
        check.due("level -1", x.choice(0, -1), BAD);
        check.due("level 4", x.choice(0, 4), BAD);
        Check.half(x, 1, 0, 0, "0000");
        check.due("right at another level", x.choice(0, 0), NO);
        check.due("right at this one", x.choice(0, 1), 0);
        check.due("circle 4", x.choice(4, 1), BAD);
        x.strike(1, 0, 0, 3, NONE);
        check.due("right no more", x.choice(0, 1), NO);
    }
}
