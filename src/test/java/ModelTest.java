import java.util.Arrays;
import java.util.Random;

/** Random runs of 512 calls, each answer against that of the plain model; no call may throw. */
public final class ModelTest {
    private static final int NONE = GongHouse.NONE;
    private static final int[] WEIGHTS = {4, 4, 4, 8, 6, 30, 10, 8, 8, 8, 6, 6, 1, 10, 20, 20, 10, 4, 14, 6, 4, 16, 6, 10};
    private static final int[] WILD = {Integer.MIN_VALUE, Integer.MAX_VALUE, NONE, GongHouse.BAD, -1, 0, 1, 256, -256, 1 << 30, 65536};
    private static final Check check = new Check("ModelTest");
    private static Random random;
    private static GongHouse house;
    private static Model model;
    private static String run;
    private static int calls;

    public static void main(String[] args) {
        for (int seed = 0; seed < 600; seed++) {
            random = new Random(seed);
            house = new GongHouse();
            model = new Model();
            run = "seed " + seed + ": ";
            calls = 0;
            boolean wild = seed % 10 == 9;
            while (calls < 512) {
                if (wild && random.nextInt(4) == 0) {
                    both(random.nextInt(24), someWild());
                } else {
                    someAct();
                }
            }
        }
        check.end();
    }

    private static void both(int method, int... a) {
        // What an object answers behind its 512th call is free.
        if (calls == 512) {
            return;
        }
        calls++;
        String text = run + Calls.text(method, a);
        check.due(text, Calls.call(house, method, a), model.call(method, a));
    }

    private static int[] someWild() {
        int[] a = new int[5];
        for (int i = 0; i < 5; i++) {
            a[i] = random.nextInt(3) == 0 ? WILD[random.nextInt(WILD.length)] : random.nextInt(5);
        }
        return a;
    }

    /** A number below a bound, now and then one just outside. */
    private static int some(int bound) {
        int dice = random.nextInt(40);
        return dice == 0 ? -1 : dice == 1 ? bound : random.nextInt(bound);
    }

    private static int someLevel() {
        return random.nextInt(3) == 0 ? NONE : some(4);
    }

    private static int someShift() {
        return random.nextInt(4) == 0 ? NONE : some(9) - 4;
    }

    private static void someAct() {
        int dice = random.nextInt(40);
        if (dice == 0) {
            someTune();
        } else if (dice == 1) {
            someRightFigure();
        } else {
            someCall();
        }
    }

    private static void someTune() {
        String text = someTuneText();
        both(Calls.TRIM, 0);
        for (int[] told : Calls.ofTape(text)) {
            both(told[0], Arrays.copyOfRange(told, 1, told.length));
        }
        both(2, some(4));
    }

    private static String someTuneText() {
        StringBuilder text = new StringBuilder();
        int items = 1 + random.nextInt(8);
        for (int i = 0; i < items; i++) {
            if (random.nextInt(4) == 0) {
                text.append('[').append(someBeats(1 + random.nextInt(4))).append(']').append(2 + random.nextInt(4));
            } else {
                text.append(someBeats(1 + random.nextInt(3)));
            }
        }
        if (random.nextInt(3) == 0) {
            int at = random.nextInt(text.length());
            text.setCharAt(at, "0123456789.[]GgHLx\u00e9".charAt(random.nextInt(19)));
        }
        if (random.nextInt(8) == 0) {
            text.setLength(random.nextInt(text.length()));
        }
        if (text.length() > 64) {
            text.setLength(64);
        }
        return text.toString();
    }

    private static String someBeats(int many) {
        StringBuilder text = new StringBuilder();
        for (int i = 0; i < many; i++) {
            text.append("1234567...".charAt(random.nextInt(10)));
            if (random.nextInt(3) == 0) {
                text.append("GgHL".charAt(random.nextInt(4)));
            }
        }
        return text.toString();
    }

    private static void someRightFigure() {
        int level = random.nextInt(3);
        int figure = random.nextInt(6);
        for (int step = 0; step < 2 << level; step++) {
            int half = random.nextInt(2);
            int shift = random.nextInt(9) - 4;
            boolean both = random.nextInt(5) == 0;
            both(5, level, figure, half, step, shift);
            both(5, level, figure, 1 - half, step, both ? -shift : NONE);
            both(7, level, figure, step, both || random.nextInt(4) == 0 ? 1 : 0);
        }
        both(8, level, figure);
        both(9, level, random.nextInt(3), figure);
        both(19, some(4), level);
    }

    private static void someCall() {
        int method = someMethod();
        int level = some(4);
        int steps = 2 << Math.max(0, Math.min(3, level));
        switch (method) {
            case 0: both(0, random.nextInt(), 0x31322E33, 0x5B34475D); break;
            case 1: both(1, some(random.nextBoolean() ? 3 : 61)); break;
            case 2: both(2, some(4)); break;
            case 3: both(3, some(4), some(random.nextBoolean() ? 8 : 32), some(3)); break;
            case 4: both(4, some(4), some(random.nextBoolean() ? 8 : 32), some(4)); break;
            case 5: both(5, level, some(6), some(2), some(steps), someShift()); break;
            case 6: both(6, level, some(6), some(2), some(2)); break;
            case 7: both(7, level, some(6), some(steps), some(2)); break;
            case 8: both(8, level, some(6)); break;
            case 9: both(9, level, some(3), some(6)); break;
            case 10: both(10, some(4), 1 + some(9), someLevel()); break;
            case 11: both(11, some(random.nextBoolean() ? 12 : 144), someLevel()); break;
            case 13: both(13, some(random.nextBoolean() ? 12 : 144), some(4)); break;
            case 14: case 15: both(method, some(4), some(8), some(6), some(random.nextBoolean() ? 2 : 16)); break;
            case 16: both(16, some(4), some(12)); break;
            case 18: both(18, some(4), level, 100 * some(6) + 10 * some(6) + some(6)); break;
            case 19: both(19, some(4), level); break;
            case 20: both(20, some(2), some(17)); break;
            case 21: both(21, some(2), some(random.nextBoolean() ? 4 : 16), some(12) - 6); break;
            case 22: both(22, some(2), some(4), some(2), some(4), some(5)); break;
            case 23: both(23, some(7)); break;
            default: both(method); break;
        }
    }

    private static int someMethod() {
        int sum = 0;
        for (int weight : WEIGHTS) {
            sum += weight;
        }
        int left = random.nextInt(sum);
        int method = 0;
        while (left >= WEIGHTS[method]) {
            left -= WEIGHTS[method];
            method++;
        }
        return method;
    }
}
