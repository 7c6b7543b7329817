import java.util.ArrayList;
import java.util.List;

/** A run of calls that can be made again on any number of new objects. */
final class Script {
    private static final int NONE = GongHouse.NONE;
    private final List<int[]> calls = new ArrayList<>();

    Script call(int... told) {
        calls.add(told);
        return this;
    }

    Script tape(String text) {
        calls.addAll(Calls.ofTape(text));
        return this;
    }

    Script tune(int circle, String text) {
        return tape(text).call(Calls.TUNE, circle);
    }

    /** As Check.half. */
    Script half(int level, int figure, int half, String row) {
        for (int step = 0; step < row.length(); step++) {
            call(Calls.STRIKE, level, figure, half, step, Check.shift(row.charAt(step)));
        }
        return this;
    }

    int size() {
        return calls.size();
    }

    GongHouse made() {
        GongHouse x = new GongHouse();
        for (int[] told : calls) {
            Calls.call(x, told);
        }
        return x;
    }

    /** A house in which everything has been told, and what can be full is full. */
    static Script ofFullHouse() {
        Script s = new Script();
        s.tune(0, "[1G2g3H4L]4[5.6G7]4").tune(1, ".7L").tune(2, "..3.5..").tune(3, "[.G]3");
        s.tellFigures();
        s.tellPiece();
        s.tellSheets();
        return s.tape("1G2g3H4L5G6g".repeat(5));
    }

    /** At each level figures 0 to 2 are right; in 3 to 5 both halves strike where they may not. */
    private void tellFigures() {
        for (int level = 0; level < 4; level++) {
            int steps = 2 << level;
            call(Calls.SHEET, 0, steps);
            for (int figure = 0; figure < 6; figure++) {
                call(Calls.MARK, 0, figure % steps, figure - 3);
                call(Calls.LAY, level, figure, 0, 0);
                call(figure < 3 ? new int[] {Calls.TOGETHER, level, figure, steps - 1, 1} : new int[] {Calls.LAY, level, figure, 1, 0});
            }
            for (int which = 0; which < 3; which++) {
                call(Calls.USE, level, which, (level + which) % 3 + 1);
            }
        }
    }

    private void tellPiece() {
        for (int part = 0; part < 16; part++) {
            call(Calls.PART, part % 4, part == 15 ? 9 : part % 9 + 1, part % 3 == 0 ? NONE : part % 4);
        }
        for (int signal = 0; signal < 20; signal++) {
            call(Calls.SIGNAL, signal == 19 ? 143 : 4 * signal, signal % 4);
        }
    }

    private void tellSheets() {
        call(Calls.SHEET, 0, 16);
        call(Calls.SHEET, 1, 4);
        for (int place = 0; place < 16; place++) {
            call(Calls.MARK, 0, place, 3 * place - 20);
        }
        for (int place = 0; place < 4; place++) {
            call(Calls.MARK, 1, place, 100 + place);
        }
    }
}
