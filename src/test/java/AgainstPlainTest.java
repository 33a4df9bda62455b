import java.util.ArrayList;
import java.util.List;

/** Long runs of calls, right and wrong ones, each answer held against that of PlainSkylinesheet. */
public final class AgainstPlainTest {
    private static final int CALLS = 512;
    private static final int RUNS = 60;
    private static final int COMMANDS = 9;
    private static final int KINDS = 35;

    private interface Call {
        Object made();
    }

    private final Numbers numbers;
    private final Skylinesheet real = new Skylinesheet();
    private final PlainSkylinesheet plain = new PlainSkylinesheet();
    private final List<String> calls = new ArrayList<>();
    private final int share;
    private final int breadth;
    /** Whether little is torn and taken, so that 24 stand and lie. */
    private final boolean isKept;
    private int wrong;

    private AgainstPlainTest(int run) {
        numbers = new Numbers(run * 7919L + 17);
        share = 20 + run % 5 * 15;
        breadth = run % 3 == 0 ? 4 : run % 3 == 1 ? 10 : 30;
        isKept = run % 4 < 2;
    }

    public static void main(String[] args) {
        int wrong = 0;
        for (int run = 0; run < RUNS; run++) {
            wrong += new AgainstPlainTest(run).run();
        }
        System.out.println(wrong == 0 ? RUNS + " runs answered as the plain one" : wrong + " answers differ");
        if (wrong != 0) {
            System.exit(1);
        }
    }

    private int run() {
        for (int n = 1; n < CALLS && wrong == 0; n++) {
            boolean isCommand = numbers.below(100) < share;
            call(isCommand ? commandKind() : COMMANDS + numbers.below(KINDS - COMMANDS));
        }
        same("digest()", real::digest, plain::digest);
        for (int sheet = 0; sheet < 3 && wrong == 0; sheet++) {
            compareWhole(sheet);
        }
        return wrong;
    }

    /** What a run ends with is looked at in every place. */
    private void compareWhole(int s) {
        for (int n = 0; n < 3 * 4 * 7; n++) {
            int other = n / 28;
            int how = n / 7 % 4;
            int what = n % 7;
            same("both " + s + " " + other + " " + how + " " + what, () -> real.both(s, other, how, what),
                () -> plain.both(s, other, how, what));
        }
        for (int n = numbers.below(7); n < 900; n += 7) {
            int x = n % 30;
            int y = n / 30;
            same("piece " + s + " " + x + " " + y, () -> real.piece(s, x, y), () -> plain.piece(s, x, y));
            same("depth " + s + " " + x + " " + y, () -> real.depth(s, x, y), () -> plain.depth(s, x, y));
        }
    }

    private int commandKind() {
        int kind = numbers.below(COMMANDS);
        boolean isLoss = kind == 1 || kind == 4;
        return isLoss && isKept && numbers.below(6) > 0 ? kind - 1 : kind;
    }

    private static String answer(Call call) {
        try {
            return String.valueOf(call.made());
        } catch (RuntimeException e) {
            return "throws " + e.getClass().getSimpleName();
        }
    }

    private void same(String text, Call mine, Call due) {
        String got = answer(mine);
        String want = answer(due);
        calls.add(text + " " + want);
        if (!got.equals(want)) {
            wrong++;
            System.out.println(calls + " but answered " + got);
        }
    }

    /** A number from first to last, now and then one just beyond them or far away. */
    private int num(int first, int last) {
        switch (numbers.below(60)) {
            case 0: return first - 1;
            case 1: return last + 1;
            case 2: return numbers.below(2) == 0 ? Integer.MIN_VALUE : Integer.MAX_VALUE;
            case 3: return first;
            case 4: return last;
            default: return first + numbers.below(last - first + 1);
        }
    }

    /** The second end of a piece that begins at one, mostly not too far from it. */
    private int end(int from, int last, int far) {
        if (from < 0 || from >= last) {
            return num(1, last);
        }
        return num(from + 1, Math.min(last, from + far));
    }

    private int one(int count) {
        return num(Math.max(0, count - 26), Math.max(0, count - 1));
    }

    private boolean either() {
        return numbers.below(2) == 0;
    }

    private void call(int kind) {
        if (kind < COMMANDS) {
            command(kind);
        } else if (kind < 20) {
            askTown(kind);
        } else {
            askSheets(kind);
        }
    }

    private void command(int kind) {
        int b = one(plain.house(0));
        int r = one(plain.house(1));
        int s = num(0, 2);
        switch (kind) {
            case 0: {
                int left = num(0, 199);
                int right = end(left, 200, breadth * 5);
                int height = num(1, either() ? 99 : 9);
                same("build " + left + " " + right + " " + height, () -> real.build(left, right, height),
                    () -> plain.build(left, right, height));
                break;
            }
            case 1:
                same("tear " + b, () -> real.tear(b), () -> plain.tear(b));
                break;
            case 2: {
                int by = either() ? num(-99, 99) : num(-9, 9);
                same("raise " + b + " " + by, () -> real.raise(b, by), () -> plain.raise(b, by));
                break;
            }
            case 8:
                layLine(s, numbers.below(5) * 3, numbers.below(5) * 3, either());
                break;
            case 3: {
                int left = num(0, 29);
                int right = end(left, 30, breadth);
                int top = num(0, 29);
                int bottom = end(top, 30, breadth);
                same("lay " + s + " " + left + " " + right + " " + top + " " + bottom,
                    () -> real.lay(s, left, right, top, bottom), () -> plain.lay(s, left, right, top, bottom));
                break;
            }
            case 4:
                same("take " + r, () -> real.take(r), () -> plain.take(r));
                break;
            case 5: {
                int right = either() ? num(-30, 30) : num(-3, 3);
                int down = either() ? num(-30, 30) : num(-3, 3);
                same("shift " + r + " " + right + " " + down, () -> real.shift(r, right, down),
                    () -> plain.shift(r, right, down));
                break;
            }
            case 6:
                same("turn " + s, () -> real.turn(s), () -> plain.turn(s));
                break;
            default:
                if (numbers.below(8) == 0) {
                    same("wipe " + s, () -> real.wipe(s), () -> plain.wipe(s));
                } else {
                    same("undo", real::undo, plain::undo);
                }
                break;
        }
    }

    /** Lines that cross one another make holes, and holes within holes. */
    private void layLine(int s, int across, int down, boolean isLevel) {
        int left = isLevel ? 3 * numbers.below(2) : across;
        int right = isLevel ? 10 + numbers.below(4) : across + 1;
        int top = isLevel ? down : 3 * numbers.below(2);
        int bottom = isLevel ? down + 1 : 10 + numbers.below(4);
        same("lay " + s + " " + left + " " + right + " " + top + " " + bottom,
            () -> real.lay(s, left, right, top, bottom), () -> plain.lay(s, left, right, top, bottom));
    }

    private void askTown(int kind) {
        int b = one(plain.house(0));
        int x = num(0, 200);
        int height = num(1, 99);
        switch (kind) {
            case 9:
                same("blank", real::blank, plain::blank);
                break;
            case 10:
                same("knock", real::knock, plain::knock);
                break;
            case 11: {
                int what = num(0, 6);
                same("ofBuilding " + b + " " + what, () -> real.ofBuilding(b, what), () -> plain.ofBuilding(b, what));
                break;
            }
            case 12:
                same("height " + x, () -> real.height(x), () -> plain.height(x));
                break;
            case 13: {
                int nth = num(0, 20);
                boolean is = either();
                same("corner " + nth + " " + is, () -> real.corner(nth, is), () -> plain.corner(nth, is));
                break;
            }
            case 14:
                same("skyline", real::skyline, plain::skyline);
                break;
            case 15:
                same("ladder " + height, () -> real.ladder(height), () -> plain.ladder(height));
                break;
            case 16: {
                int rest = num(0, 1);
                same("half " + rest + " " + x, () -> real.half(rest, x), () -> plain.half(rest, x));
                break;
            }
            case 17: {
                int to = num(0, 200);
                same("between " + x + " " + to, () -> real.between(x, to), () -> plain.between(x, to));
                break;
            }
            case 18: {
                boolean is = either();
                same("look " + x + " " + height + " " + is, () -> real.look(x, height, is),
                    () -> plain.look(x, height, is));
                break;
            }
            default: {
                int what = num(0, 8);
                same("town " + what, () -> real.town(what), () -> plain.town(what));
                break;
            }
        }
    }

    private void askSheets(int kind) {
        int r = one(plain.house(1));
        int s = num(0, 2);
        int x = num(0, 29);
        int y = num(0, 29);
        boolean is = either();
        switch (kind) {
            case 20: {
                int what = num(0, 7);
                same("ofRectangle " + r + " " + what, () -> real.ofRectangle(r, what),
                    () -> plain.ofRectangle(r, what));
                break;
            }
            case 21:
                same("depth " + s + " " + x + " " + y, () -> real.depth(s, x, y), () -> plain.depth(s, x, y));
                break;
            case 22:
                same("row " + s + " " + y, () -> real.row(s, y), () -> plain.row(s, y));
                break;
            case 23: {
                int from = num(0, 30);
                int to = num(0, 30);
                same("inked " + s + " " + y + " " + from + " " + to, () -> real.inked(s, y, from, to),
                    () -> plain.inked(s, y, from, to));
                break;
            }
            case 24:
                same("along " + s + " " + x + " " + y + " " + is, () -> real.along(s, x, y, is),
                    () -> plain.along(s, x, y, is));
                break;
            case 25: {
                int what = num(0, 11);
                same("ofSheet " + s + " " + what, () -> real.ofSheet(s, what), () -> plain.ofSheet(s, what));
                break;
            }
            case 26:
                same("piece " + s + " " + x + " " + y, () -> real.piece(s, x, y), () -> plain.piece(s, x, y));
                break;
            case 27: {
                int depth = num(1, either() ? 24 : 4);
                same("deep " + s + " " + depth, () -> real.deep(s, depth), () -> plain.deep(s, depth));
                break;
            }
            case 28: {
                int other = num(0, 2);
                int how = num(0, 3);
                int what = num(0, 6);
                same("both " + s + " " + other + " " + how + " " + what, () -> real.both(s, other, how, what),
                    () -> plain.both(s, other, how, what));
                break;
            }
            case 29: {
                int what = num(0, 6);
                same("house " + what, () -> real.house(what), () -> plain.house(what));
                break;
            }
            default:
                askWhatWouldBe(kind, s, is);
                break;
        }
    }

    private void askWhatWouldBe(int kind, int s, boolean is) {
        switch (kind) {
            case 30: {
                int left = num(0, 199);
                int right = end(left, 200, 200);
                int height = num(1, 99);
                same("would " + left + " " + right + " " + height + " " + is,
                    () -> real.would(left, right, height, is), () -> plain.would(left, right, height, is));
                break;
            }
            case 31: {
                int left = num(0, 29);
                int right = end(left, 30, 30);
                int top = num(0, 29);
                int bottom = end(top, 30, 30);
                same("adds " + s + " " + left + " " + right + " " + top + " " + bottom,
                    () -> real.adds(s, left, right, top, bottom), () -> plain.adds(s, left, right, top, bottom));
                break;
            }
            case 32: {
                int n = one(plain.house(is ? 0 : 1));
                same("without " + is + " " + n, () -> real.without(is, n), () -> plain.without(is, n));
                break;
            }
            case 33: {
                int line = num(0, 29);
                same("swept " + s + " " + is + " " + line, () -> real.swept(s, is, line),
                    () -> plain.swept(s, is, line));
                break;
            }
            default:
                if (numbers.below(6) == 0) {
                    same("digest", real::digest, plain::digest);
                } else {
                    same("isSound", real::isSound, plain::isSound);
                }
                break;
        }
    }
}
