import java.util.ArrayList;
import java.util.List;

/**
 * Whether a refused call changes nothing: all that can be asked of the house is asked of it and of
 * a twin that never got the call. An object lasts for 512 calls, so each asks a share on objects of
 * its own.
 */
final class Twin {
    private static final int NONE = GongHouse.NONE;
    private static final int MOST_CALLS = 512;
    private final Check check;
    private final Script setup;
    private final List<List<int[]>> shares = new ArrayList<>();
    private final List<int[]> answers = new ArrayList<>();
    private final List<int[]> answersWithoutTape = new ArrayList<>();

    Twin(Check check, Script setup) {
        this.check = check;
        this.setup = setup;
        share(circleQuestions());
        share(figureQuestions());
        share(pieceQuestions());
        share(sheetQuestions());
        shares.add(tapeQuestions());
        for (List<int[]> share : shares) {
            answers.add(ask(setup.made(), share));
            GongHouse emptied = setup.made();
            emptied.trim(0);
            answersWithoutTape.add(ask(emptied, share));
        }
    }

    /** The call is refused with the answer that is due, and changes nothing. */
    void refuses(int due, int... told) {
        compare(due, told, answers);
    }

    /** The call is refused with the answer that is due, uses the tape up, and changes nothing else. */
    void refusesAndUsesTape(int due, int... told) {
        compare(due, told, answersWithoutTape);
    }

    /** The call, with each of the values in turn as one of its numbers (counted from 1), is refused and changes nothing. */
    void refusesEach(int due, int[] told, int number, int... values) {
        for (int value : values) {
            int[] changed = told.clone();
            changed[number] = value;
            refuses(due, changed);
        }
    }

    private void compare(int due, int[] told, List<int[]> answersDue) {
        String text = Calls.text(told[0], java.util.Arrays.copyOfRange(told, 1, told.length));
        for (int i = 0; i < shares.size(); i++) {
            GongHouse x = setup.made();
            check.due(text, Calls.call(x, told), due);
            int[] got = ask(x, shares.get(i));
            for (int q = 0; q < got.length; q++) {
                if (got[q] != answersDue.get(i)[q]) {
                    int[] question = shares.get(i).get(q);
                    String asked = Calls.text(question[0], java.util.Arrays.copyOfRange(question, 1, question.length));
                    check.due("behind the refused " + text + ": " + asked, got[q], answersDue.get(i)[q]);
                    break;
                }
            }
        }
    }

    private static int[] ask(GongHouse x, List<int[]> questions) {
        int[] got = new int[questions.size()];
        for (int q = 0; q < got.length; q++) {
            got[q] = Calls.call(x, questions.get(q));
        }
        return got;
    }

    private void share(List<int[]> questions) {
        // One call less than there are left: that of the refused call itself.
        int many = MOST_CALLS - setup.size() - 1;
        for (int from = 0; from < questions.size(); from += many) {
            shares.add(questions.subList(from, Math.min(from + many, questions.size())));
        }
    }

    private static void add(List<int[]> questions, int... told) {
        questions.add(told);
    }

    private static List<int[]> circleQuestions() {
        List<int[]> all = new ArrayList<>();
        for (int what = 0; what < 7; what++) {
            add(all, Calls.COUNT, what);
        }
        for (int circle = 0; circle < 4; circle++) {
            for (int beat = 0; beat < 32; beat++) {
                for (int what = 0; what < 3; what++) {
                    add(all, Calls.TOLD, circle, beat, what);
                }
            }
        }
        return all;
    }

    /** What is struck is asked by striking nothing there. */
    private static List<int[]> figureQuestions() {
        List<int[]> all = new ArrayList<>();
        for (int level = 0; level < 4; level++) {
            for (int figure = 0; figure < 6; figure++) {
                add(all, Calls.WRONG, level, figure);
                for (int step = 0; step < 2 << level; step++) {
                    add(all, Calls.STRIKE, level, figure, 0, step, NONE);
                    add(all, Calls.STRIKE, level, figure, 1, step, NONE);
                    add(all, Calls.TOGETHER, level, figure, step, 0);
                }
            }
            for (int which = 0; which < 3; which++) {
                add(all, Calls.USE, level, which, 0);
            }
        }
        return all;
    }

    private static List<int[]> pieceQuestions() {
        List<int[]> all = new ArrayList<>();
        add(all, Calls.TICKS);
        for (int round = 0; round < 144; round++) {
            add(all, Calls.ROUND, round, 0);
            add(all, Calls.ROUND, round, 1);
            add(all, Calls.ROUND, round, 2);
        }
        for (int round = 0; round < 144; round++) {
            add(all, Calls.SIGNAL, round, NONE);
        }
        return all;
    }

    private static List<int[]> sheetQuestions() {
        List<int[]> all = new ArrayList<>();
        for (int place = 0; place < 16; place++) {
            add(all, Calls.MARK, 0, place, 0);
            add(all, Calls.MARK, 1, place, 0);
        }
        return all;
    }

    /** The bytes of the tape are asked by taking it for a tune. */
    private static List<int[]> tapeQuestions() {
        List<int[]> all = new ArrayList<>();
        add(all, Calls.COUNT, 6);
        add(all, Calls.TUNE, 0);
        for (int beat = 0; beat < 32; beat++) {
            add(all, Calls.TOLD, 0, beat, 0);
            add(all, Calls.TOLD, 0, beat, 2);
        }
        return all;
    }
}
