/** Any call in any state throws only what the document names, also beyond the 512 calls of an object. */
public final class EndlessTest {
    private static final int[] NUMBERS = {Integer.MIN_VALUE, -100, -31, -2, -1, 0, 1, 2, 3, 5, 11, 12, 24, 29, 30, 31,
        99, 100, 199, 200, 201, 511, 512, 513, Integer.MAX_VALUE};

    private final Numbers numbers = new Numbers(36);
    private final Skylinesheet s = new Skylinesheet();

    public static void main(String[] args) {
        int wrong = 0;
        for (int run = 0; run < 20; run++) {
            EndlessTest test = new EndlessTest();
            for (int n = 0; n < run; n++) {
                test.numbers.below(2);
            }
            wrong += test.run();
        }
        wrong += builtOnEnd();
        System.out.println(wrong == 0 ? "no call threw by itself" : wrong + " calls threw by themselves");
        if (wrong != 0) {
            System.exit(1);
        }
    }

    /** All 512 calls may be told ones. */
    private static int builtOnEnd() {
        Skylinesheet s = new Skylinesheet();
        for (int n = 0; n < 128; n++) {
            s.tear(s.build(n, n + 50, 1 + n % 99));
            s.take(s.lay(n % 3, 0, 1 + n % 30, n % 30, 30));
        }
        boolean isRight = s.house(3) == 512 && s.house(0) == 128 && s.isSound();
        if (!isRight || s.undo() != 511 || s.ofRectangle(127, 5) != 1) {
            System.out.println("512 calls are not all told");
            return 1;
        }
        return 0;
    }

    private int run() {
        for (int n = 0; n < 3000; n++) {
            int kind = n % 35;
            try {
                if (kind < 9) {
                    command(kind);
                } else if (kind < 20) {
                    askTown(kind);
                } else {
                    askSheets(kind);
                }
            } catch (RuntimeException e) {
                Class<?> type = e.getClass();
                boolean isNamed = type == IllegalArgumentException.class || type == IllegalStateException.class
                    || type == IndexOutOfBoundsException.class;
                if (!isNamed) {
                    System.out.println("call " + n + " of the kind " + kind + " threw " + e);
                    return 1;
                }
            }
        }
        return 0;
    }

    private int any() {
        return numbers.below(3) == 0 ? numbers.below(30) : NUMBERS[numbers.below(NUMBERS.length)];
    }

    private boolean either() {
        return numbers.below(2) == 0;
    }

    private void command(int kind) {
        int left = numbers.below(30);
        int top = numbers.below(30);
        switch (kind) {
            case 0: s.build(either() ? any() : left, left + 1 + numbers.below(99), 1 + numbers.below(99)); break;
            case 1: s.tear(any()); break;
            case 2: s.raise(any(), any()); break;
            case 3: s.lay(numbers.below(3), either() ? any() : left, 30, top, 30); break;
            case 4: s.take(any()); break;
            case 5: s.shift(any(), any(), any()); break;
            case 6: s.turn(any()); break;
            case 7: s.wipe(any()); break;
            default:
                if (numbers.below(9) == 0) {
                    s.undo();
                }
                break;
        }
    }

    private void askTown(int kind) {
        switch (kind) {
            case 9: s.blank(); break;
            case 10: s.knock(); break;
            case 11: s.ofBuilding(any(), any()); break;
            case 12: s.height(any()); break;
            case 13: s.corner(any(), either()); break;
            case 14: s.skyline(); break;
            case 15: s.ladder(any()); break;
            case 16: s.half(any(), any()); break;
            case 17: s.between(any(), any()); break;
            case 18: s.look(any(), any(), either()); break;
            default: s.town(any()); break;
        }
    }

    private void askSheets(int kind) {
        switch (kind) {
            case 20: s.ofRectangle(any(), any()); break;
            case 21: s.depth(any(), any(), any()); break;
            case 22: s.row(any(), any()); break;
            case 23: s.inked(any(), any(), any(), any()); break;
            case 24: s.along(any(), any(), any(), either()); break;
            case 25: s.ofSheet(any(), any()); break;
            case 26: s.piece(any(), any(), any()); break;
            case 27: s.deep(any(), any()); break;
            case 28: s.both(any(), any(), any(), any()); break;
            case 29: s.house(any()); break;
            case 30: s.would(any(), any(), any(), either()); break;
            case 31: s.adds(any(), any(), any(), any(), any()); break;
            case 32: s.without(either(), any()); break;
            case 33: s.swept(any(), either(), any()); break;
            default:
                s.isSound();
                s.digest();
                break;
        }
    }
}
