/** Promises 5 to 9, 22 to 30 and 33 to 37 by hand: rectangles, sheets, and what is sound. */
public final class SheetsTest {
    private static final int MIN = Integer.MIN_VALUE;
    private static final int MAX = Integer.MAX_VALUE;
    private static final int[][] WRONG_RECTANGLES = {{-1, 5, 0, 1}, {30, 31, 0, 1}, {5, 5, 0, 1}, {5, 31, 0, 1},
        {0, 1, -1, 1}, {0, 1, 30, 31}, {0, 1, 5, 5}, {0, 1, 5, 31}, {MAX, MIN, 0, 1}, {0, 1, MAX, MIN},
        {5, 4, 0, 1}, {0, 1, 5, 4}};

    private final Due due = new Due();

    public static void main(String[] args) {
        SheetsTest test = new SheetsTest();
        test.lay();
        test.take();
        test.shift();
        test.turn();
        test.wipe();
        test.ofRectangle();
        test.covered();
        test.depthAndDeep();
        test.row();
        test.inked();
        test.along();
        test.ofSheet();
        test.shapes();
        test.deepest();
        test.piece();
        test.both();
        test.adds();
        test.without();
        test.swept();
        test.soundAndDigest();
        test.due.end();
    }

    /** On the sheet 1 a ring around one hole of 3 by 3, 5 by 5 in all, its first cell at x 10 and y 20. */
    private static Skylinesheet ring() {
        Skylinesheet s = new Skylinesheet();
        s.lay(1, 10, 15, 20, 21);
        s.lay(1, 10, 15, 24, 25);
        s.lay(1, 10, 11, 20, 25);
        s.lay(1, 14, 15, 20, 25);
        return s;
    }

    private void measures(String text, Skylinesheet s, int sheet, int... want) {
        for (int what = 0; what < want.length; what++) {
            due.is(text + " ofSheet(" + sheet + ", " + what + ")", s.ofSheet(sheet, what), want[what]);
        }
    }

    private void lay() {
        Skylinesheet s = new Skylinesheet();
        due.is("5 lay", s.lay(0, 0, 30, 0, 30), 0);
        due.is("5 lay", s.lay(2, 29, 30, 29, 30), 1);
        due.is("5 lay", s.lay(1, 0, 1, 0, 1), 2);
        due.is("5 area", s.ofSheet(0, 0), 900);
        for (int[] w : WRONG_RECTANGLES) {
            due.argument("5 lay " + w[0] + " " + w[1] + " " + w[2] + " " + w[3],
                () -> s.lay(0, w[0], w[1], w[2], w[3]));
        }
        due.index("5 sheet 3", () -> s.lay(3, 0, 1, 0, 1));
        due.index("5 the index goes ahead of the argument", () -> s.lay(-1, 0, 0, 0, 1));
        due.is("5 wrong ones lay nothing", s.house(1), 3);
        due.is("5 wrong ones are not told", s.house(3), 3);
        for (int n = 3; n < 24; n++) {
            due.is("5 lay", s.lay(n % 3, 0, 1, 0, 1), n);
        }
        due.state("5 lay the 25th", () -> s.lay(0, 0, 1, 0, 1));
        due.argument("5 the argument goes ahead of the state", () -> s.lay(0, 0, 0, 0, 1));
        due.index("5 the index goes ahead of the state", () -> s.lay(3, 0, 1, 0, 1));
        s.take(5);
        due.is("5 lay when one is taken", s.lay(0, 0, 1, 0, 1), 24);
    }

    private void take() {
        Skylinesheet s = new Skylinesheet();
        s.lay(0, 0, 4, 0, 4);
        s.lay(0, 2, 6, 2, 6);
        due.is("6 take", s.take(0), 12);
        due.state("6 take twice", () -> s.take(0));
        due.index("6 take 2", () -> s.take(2));
        due.index("6 take -1", () -> s.take(-1));
        due.index("6 take MAX", () -> s.take(MAX));
        due.is("6 told", s.house(3), 3);
        s.lay(1, 0, 30, 0, 30);
        s.lay(0, 1, 7, 1, 7);
        due.is("6 take a covered one", s.take(1), 0);
        due.is("6 area", s.ofSheet(0, 0), 36);
    }

    private void shift() {
        Skylinesheet s = new Skylinesheet();
        s.lay(0, 0, 4, 0, 3);
        s.lay(0, 4, 8, 0, 3);
        due.is("7 shift", s.shift(1, -2, 0), 18);
        due.is("7 shift", s.shift(1, 0, 2), 22);
        due.is("7 left", s.ofRectangle(1, 0), 2);
        due.is("7 top", s.ofRectangle(1, 2), 2);
        due.is("7 beyond the left", s.shift(1, -3, 0), -1);
        due.is("7 beyond the top", s.shift(1, 0, -3), -1);
        due.is("7 beyond the right", s.shift(1, 25, 0), -1);
        due.is("7 beyond the bottom", s.shift(1, 0, 26), -1);
        due.is("7 one of both beyond", s.shift(1, 1, 26), -1);
        due.is("7 nothing changes", s.ofRectangle(1, 0), 2);
        due.is("7 to the corner", s.shift(1, 24, 25), 24);
        due.is("7 right", s.ofRectangle(1, 1), 30);
        due.is("7 bottom", s.ofRectangle(1, 3), 30);
        due.is("7 by 0", s.shift(1, 0, 0), 24);
        due.is("7 NONE is told, too", s.house(3), 11);
        due.argument("7 right 31", () -> s.shift(0, 31, 0));
        due.argument("7 right -31", () -> s.shift(0, -31, 0));
        due.argument("7 down 31", () -> s.shift(0, 0, 31));
        due.argument("7 down -31", () -> s.shift(0, 0, -31));
        due.is("7 right 30 is none", s.shift(0, 30, -30), -1);
        due.index("7 the index goes ahead of the argument", () -> s.shift(2, 31, 0));
        s.take(0);
        due.argument("7 the argument goes ahead of the state", () -> s.shift(0, 31, 0));
        due.state("7 what does not lie", () -> s.shift(0, 0, 0));
    }

    private void turn() {
        Skylinesheet s = new Skylinesheet();
        s.lay(0, 1, 4, 10, 30);
        s.lay(0, 0, 30, 0, 1);
        s.lay(1, 1, 4, 10, 30);
        s.lay(0, 2, 3, 4, 5);
        s.take(3);
        due.is("8 turn", s.turn(0), 2);
        int[] want = {10, 30, 1, 4};
        int[] stays = {1, 4, 10, 30};
        int[] taken = {2, 3, 4, 5};
        for (int what = 0; what < 4; what++) {
            due.is("8 turned " + what, s.ofRectangle(0, what), want[what]);
            due.is("8 on another sheet " + what, s.ofRectangle(2, what), stays[what]);
            due.is("8 taken " + what, s.ofRectangle(3, what), taken[what]);
        }
        due.is("8 row", s.row(0, 0), "#.............................");
        due.is("8 turn an empty one", s.turn(2), 0);
        due.is("8 it is told", s.house(3), 7);
        due.index("8 sheet 3", () -> s.turn(3));
        due.index("8 sheet -1", () -> s.turn(-1));
    }

    private void wipe() {
        Skylinesheet s = new Skylinesheet();
        s.lay(0, 0, 4, 0, 4);
        s.lay(0, 2, 6, 2, 6);
        s.lay(1, 0, 1, 0, 1);
        due.is("9 wipe", s.wipe(0), 28);
        due.is("9 none lies", s.ofSheet(0, 7), 0);
        due.is("9 the other one stays", s.ofSheet(1, 0), 1);
        due.is("9 wipe an empty one", s.wipe(0), 0);
        due.is("9 it is told", s.house(3), 5);
        due.state("9 what was wiped does not lie", () -> s.take(0));
        due.index("9 sheet 3", () -> s.wipe(3));
        due.index("9 sheet MIN", () -> s.wipe(MIN));
    }

    private void ofRectangle() {
        Skylinesheet s = new Skylinesheet();
        s.lay(2, 3, 8, 10, 14);
        s.lay(2, 7, 9, 13, 20);
        int[] want = {3, 8, 10, 14, 2, 1, 0, 19};
        for (int what = 0; what <= 7; what++) {
            due.is("22 ofRectangle(0, " + what + ")", s.ofRectangle(0, what), want[what]);
        }
        due.argument("22 what -1", () -> s.ofRectangle(0, -1));
        due.argument("22 what 8", () -> s.ofRectangle(0, 8));
        due.index("22 rectangle 2", () -> s.ofRectangle(2, 0));
        due.index("22 the index goes ahead of the argument", () -> s.ofRectangle(-1, 8));
        s.take(0);
        int[] taken = {3, 8, 10, 14, 2, 0, 0, 0};
        for (int what = 0; what <= 7; what++) {
            due.is("22 taken: ofRectangle(0, " + what + ")", s.ofRectangle(0, what), taken[what]);
        }
    }

    private void covered() {
        Skylinesheet s = new Skylinesheet();
        s.lay(0, 0, 10, 0, 10);
        s.lay(0, 0, 10, 0, 5);
        s.lay(1, 0, 10, 5, 10);
        due.is("22 another sheet covers nothing", s.ofRectangle(0, 6), 0);
        due.is("22 covered by one", s.ofRectangle(1, 6), 1);
        s.lay(0, 0, 4, 5, 10);
        s.lay(0, 4, 11, 5, 10);
        due.is("22 covered by three, each cell by itself", s.ofRectangle(0, 6), 1);
        due.is("22 not covered beyond", s.ofRectangle(4, 6), 0);
        due.is("27 covered", s.ofSheet(0, 8), 3);
        s.take(3);
        due.is("22 covered no more", s.ofRectangle(0, 6), 0);
        s.lay(0, 20, 21, 20, 21);
        s.lay(0, 20, 21, 20, 21);
        due.is("22 each of two alike is covered", s.ofRectangle(5, 6) + s.ofRectangle(6, 6), 2);
    }

    private void depthAndDeep() {
        Skylinesheet s = new Skylinesheet();
        for (int n = 0; n < 24; n++) {
            s.lay(2, n, 30, n, 30);
        }
        due.is("23 depth(2, 0, 0)", s.depth(2, 0, 0), 1);
        due.is("23 depth(2, 29, 10)", s.depth(2, 29, 10), 11);
        due.is("23 depth(2, 29, 29)", s.depth(2, 29, 29), 24);
        due.is("23 depth of another sheet", s.depth(1, 29, 29), 0);
        due.argument("23 x 30", () -> s.depth(0, 30, 0));
        due.argument("23 x -1", () -> s.depth(0, -1, 0));
        due.argument("23 y 30", () -> s.depth(0, 0, 30));
        due.argument("23 y -1", () -> s.depth(0, 0, -1));
        due.index("23 the index goes ahead of the argument", () -> s.depth(3, 30, 0));
        for (int depth = 1; depth <= 24; depth++) {
            due.is("29 deep(2, " + depth + ")", s.deep(2, depth), (31 - depth) * (31 - depth));
        }
        due.argument("29 depth 0", () -> s.deep(0, 0));
        due.argument("29 depth 25", () -> s.deep(0, 25));
        due.index("29 the index goes ahead of the argument", () -> s.deep(-1, 0));
        due.is("27 the greatest depth", s.ofSheet(2, 9), 24);
        due.is("27 x of it", s.ofSheet(2, 10), 23);
        due.is("27 y of it", s.ofSheet(2, 11), 23);
    }

    private void row() {
        Skylinesheet s = ring();
        due.is("24 row(1, 20)", s.row(1, 20), "..........#####...............");
        due.is("24 row(1, 21)", s.row(1, 21), "..........#...#...............");
        due.is("24 row(1, 25)", s.row(1, 25), "..............................");
        s.lay(0, 0, 1, 29, 30);
        s.lay(0, 29, 30, 29, 30);
        due.is("24 row(0, 29)", s.row(0, 29), "#............................#");
        due.argument("24 y 30", () -> s.row(0, 30));
        due.argument("24 y -1", () -> s.row(0, -1));
        due.index("24 the index goes ahead of the argument", () -> s.row(3, 30));
    }

    private void inked() {
        Skylinesheet s = ring();
        due.is("25 all", s.inked(1, 20, 0, 30), 5);
        due.is("25 without the end", s.inked(1, 20, 10, 14), 4);
        due.is("25 nothing", s.inked(1, 20, 12, 12), 0);
        due.is("25 the holes of a row", s.inked(1, 22, 10, 15), 2);
        due.is("25 at the end", s.inked(1, 20, 30, 30), 0);
        due.is("25 from above to", s.inked(1, 20, 13, 12), -9);
        due.is("25 it is counted", s.house(4), 1);
        due.argument("25 y 30, ahead of the -9", () -> s.inked(0, 30, 1, 0));
        due.argument("25 y -1", () -> s.inked(0, -1, 0, 0));
        due.argument("25 from 31, ahead of the -9", () -> s.inked(0, 0, 31, 0));
        due.argument("25 from -1", () -> s.inked(0, 0, -1, 0));
        due.argument("25 to 31", () -> s.inked(0, 0, 0, 31));
        due.argument("25 to -1, ahead of the -9", () -> s.inked(0, 0, 0, -1));
        due.index("25 the index goes ahead of all", () -> s.inked(3, 30, 1, 0));
        due.is("25 exceptions are not counted", s.house(4), 1);
    }

    private void along() {
        Skylinesheet s = ring();
        due.is("26 to the left", s.along(1, 14, 22, true), 10);
        due.is("26 not that cell", s.along(1, 10, 22, true), -1);
        due.is("26 to the right", s.along(1, 10, 22, false), 14);
        due.is("26 beyond", s.along(1, 14, 22, false), -1);
        due.is("26 from 0", s.along(1, 0, 22, false), 10);
        due.is("26 from 29", s.along(1, 29, 22, true), 14);
        due.is("26 from 29 to the right", s.along(1, 29, 22, false), -1);
        due.is("26 in another row", s.along(1, 29, 19, true), -1);
        s.lay(0, 0, 30, 0, 1);
        due.is("26 to x 0", s.along(0, 1, 0, true), 0);
        due.is("26 to x 29", s.along(0, 28, 0, false), 29);
        due.is("26 beyond x 0", s.along(0, 0, 0, true), -1);
        due.argument("26 x -1", () -> s.along(0, -1, 0, true));
        due.argument("26 x 30", () -> s.along(0, 30, 0, true));
        due.argument("26 y -1", () -> s.along(0, 0, -1, true));
        due.argument("26 y 30", () -> s.along(0, 0, 30, true));
        due.index("26 the index goes ahead of the argument", () -> s.along(3, 30, 0, true));
    }

    private void ofSheet() {
        Skylinesheet s = ring();
        measures("27 a ring", s, 1, 16, 32, 4, 4, 1, 1, 4, 4, 0, 2, 10, 20);
        measures("27 an empty sheet", s, 0, 0, 0, 0, 0, 0, 0, 0, 0, 0, 0, -1, -1);
        s.lay(0, 0, 30, 0, 30);
        measures("27 a full sheet", s, 0, 900, 120, 4, 0, 1, 0, 1, 1, 0, 1, 0, 0);
        due.argument("27 what -1", () -> s.ofSheet(0, -1));
        due.argument("27 what 12", () -> s.ofSheet(0, 12));
        due.index("27 the index goes ahead of the argument", () -> s.ofSheet(3, 12));
    }

    private void shapes() {
        Skylinesheet s = new Skylinesheet();
        s.lay(0, 0, 1, 0, 1);
        s.lay(0, 1, 2, 1, 2);
        measures("27 two cells at a corner", s, 0, 2, 8, 8, 0, 2, 0, 2);
        s.lay(0, 2, 3, 0, 1);
        s.lay(0, 1, 2, 29, 30);
        measures("27 a gap open at the sheet's edge", s, 0, 4, 16, 16, 0, 4, 0, 4);
        s.wipe(0);
        s.lay(0, 5, 6, 5, 6);
        s.lay(0, 4, 5, 6, 7);
        s.lay(0, 6, 7, 6, 7);
        s.lay(0, 5, 6, 7, 8);
        measures("27 a gap joined to the outside at its corners", s, 0, 4, 16, 16, 0, 4, 0, 4);
        s.lay(0, 3, 8, 3, 5);
        s.lay(0, 3, 5, 3, 10);
        s.lay(0, 6, 8, 3, 10);
        s.lay(0, 3, 8, 8, 10);
        // bare within are the cells at 5, 6 alone: a hole, while 5, 5 and 5, 7 are inked
        measures("27 one hole of one cell", s, 0, 34, 28, 4, 4, 1, 1, 4);
        s.take(9);
        // the column at 3 and 4 is gone, the cell at 4, 6 stays alone
        due.is("27 parts when the left side is gone", s.ofSheet(0, 4), 2);
        due.is("27 no hole any more", s.ofSheet(0, 5), 0);
        strips();
    }

    private void strips() {
        Skylinesheet s = new Skylinesheet();
        s.lay(0, 0, 5, 0, 3);
        s.lay(0, 10, 15, 1, 4);
        s.lay(0, 0, 5, 4, 6);
        s.lay(0, 1, 5, 6, 7);
        s.lay(0, 0, 4, 7, 8);
        due.is("27 strips", s.ofSheet(0, 6), 5);
        s.lay(0, 5, 6, 1, 2);
        due.is("27 a strip is broken by a longer run", s.ofSheet(0, 6), 7);
        s.lay(1, 0, 1, 0, 30);
        s.lay(1, 29, 30, 0, 30);
        due.is("27 two columns", s.ofSheet(1, 6), 2);
        s.lay(1, 0, 30, 10, 11);
        due.is("27 two columns and a row", s.ofSheet(1, 6), 5);
    }

    private void deepest() {
        Skylinesheet s = new Skylinesheet();
        s.lay(1, 20, 25, 5, 8);
        s.lay(1, 22, 27, 7, 9);
        s.lay(1, 0, 2, 6, 9);
        s.lay(1, 1, 3, 7, 10);
        due.is("27 the greatest depth", s.ofSheet(1, 9), 2);
        due.is("27 x: smallest y, then smallest x", s.ofSheet(1, 10), 1);
        due.is("27 y: smallest y", s.ofSheet(1, 11), 7);
        s.shift(0, 0, -1);
        s.shift(1, 0, -1);
        due.is("27 x: the smaller y first", s.ofSheet(1, 10), 22);
        due.is("27 y: the smaller y first", s.ofSheet(1, 11), 6);
    }

    private void piece() {
        Skylinesheet s = ring();
        due.is("28 a part", s.piece(1, 10, 24), 16);
        due.is("28 a hole", s.piece(1, 12, 22), 9);
        due.is("28 the gap around", s.piece(1, 0, 0), 900 - 25);
        due.is("28 an empty sheet", s.piece(0, 15, 15), 900);
        s.lay(1, 15, 16, 25, 26);
        due.is("28 a corner joins no part", s.piece(1, 15, 25), 1);
        s.lay(2, 0, 30, 15, 16);
        due.is("28 gaps at two sides are one", s.piece(2, 0, 0), 870);
        s.lay(2, 5, 6, 0, 30);
        due.is("28 a cross", s.piece(2, 5, 29), 59);
        due.is("28 four gaps at the sides are one", s.piece(2, 29, 29), 841);
        s.lay(0, 0, 1, 1, 2);
        s.lay(0, 1, 2, 0, 1);
        due.is("28 a corner joins a gap", s.piece(0, 0, 0), 898);
        due.argument("28 x 30", () -> s.piece(0, 30, 0));
        due.argument("28 x -1", () -> s.piece(0, -1, 0));
        due.argument("28 y 30", () -> s.piece(0, 0, 30));
        due.argument("28 y -1", () -> s.piece(0, 0, -1));
        due.index("28 the index goes ahead of the argument", () -> s.piece(3, 30, 0));
    }

    private void both() {
        Skylinesheet s = new Skylinesheet();
        s.lay(0, 0, 4, 0, 4);
        s.lay(1, 2, 6, 2, 6);
        int[][] want = {
            {28, 24, 6, 2, 1, 0, 3},
            {4, 8, 4, 0, 1, 0, 1},
            {12, 16, 5, 1, 1, 0, 2},
            {24, 32, 10, 2, 2, 0, 4}};
        for (int how = 0; how <= 3; how++) {
            for (int what = 0; what <= 6; what++) {
                due.is("30 both(0, 1, " + how + ", " + what + ")", s.both(0, 1, how, what), want[how][what]);
            }
        }
        s.lay(0, 10, 11, 0, 1);
        due.is("30 less, on the first alone", s.both(0, 1, 2, 0), 13);
        due.is("30 less, the other way", s.both(1, 0, 2, 0), 12);
        int[] same = {17, 17, 0, 0};
        for (int how = 0; how <= 3; how++) {
            due.is("30 one and the same, " + how, s.both(0, 0, how, 0), same[how]);
        }
        s.lay(2, 10, 13, 10, 13);
        s.lay(1, 11, 12, 11, 12);
        due.is("30 a hole", s.both(2, 1, 2, 5), 1);
        due.index("30 one 3", () -> s.both(3, 0, 0, 0));
        due.index("30 other -1", () -> s.both(0, -1, 4, 7));
        due.argument("30 how -1", () -> s.both(0, 0, -1, 0));
        due.argument("30 how 4", () -> s.both(0, 0, 4, 0));
        due.argument("30 what -1", () -> s.both(0, 0, 0, -1));
        due.argument("30 what 7", () -> s.both(0, 0, 0, 7));
    }

    private void adds() {
        Skylinesheet s = ring();
        due.is("33 over all", s.adds(1, 0, 30, 0, 30), 884);
        due.is("33 the hole", s.adds(1, 10, 15, 20, 25), 9);
        due.is("33 nothing more", s.adds(1, 10, 15, 20, 21), 0);
        due.is("33 another sheet", s.adds(0, 10, 15, 20, 21), 5);
        due.is("33 a corner", s.adds(1, 29, 30, 29, 30), 1);
        due.is("33 nothing is changed", s.ofSheet(1, 0), 16);
        due.is("33 nothing is told", s.house(3), 4);
        for (int[] w : WRONG_RECTANGLES) {
            due.argument("33 adds " + w[0] + " " + w[1] + " " + w[2] + " " + w[3],
                () -> s.adds(0, w[0], w[1], w[2], w[3]));
        }
        due.index("33 the index goes ahead of the argument", () -> s.adds(3, 0, 0, 0, 1));
        for (int n = 4; n < 24; n++) {
            s.lay(1, 0, 1, 0, 1);
        }
        due.is("33 when 24 lie", s.adds(1, 0, 2, 0, 1), 1);
    }

    private void without() {
        Skylinesheet s = ring();
        due.is("34 without(false, 0)", s.without(false, 0), 3);
        s.lay(1, 10, 15, 20, 25);
        due.is("34 a covered one", s.without(false, 0), 0);
        due.is("34 what covers", s.without(false, 4), 9);
        s.take(0);
        due.state("34 taken", () -> s.without(false, 0));
        due.index("34 no such one", () -> s.without(false, 5));
        due.index("34 -1", () -> s.without(false, -1));
        due.index("34 no such building", () -> s.without(true, 0));
        due.is("34 nothing is told", s.house(3), 6);
    }

    private void swept() {
        Skylinesheet s = ring();
        s.lay(1, 0, 3, 20, 21);
        due.is("35 a column", s.swept(1, true, 10), 5);
        due.is("35 a column", s.swept(1, true, 11), 2);
        due.is("35 a column", s.swept(1, true, 0), 1);
        due.is("35 a row", s.swept(1, false, 20), 8);
        due.is("35 a row", s.swept(1, false, 21), 2);
        due.is("35 a row", s.swept(1, false, 29), 0);
        s.lay(0, 29, 30, 0, 30);
        due.is("35 the last column", s.swept(0, true, 29), 30);
        due.argument("35 line 30", () -> s.swept(0, true, 30));
        due.argument("35 line -1", () -> s.swept(0, false, -1));
        due.index("35 the index goes ahead of the argument", () -> s.swept(3, true, 30));
    }

    private void soundAndDigest() {
        Skylinesheet s = ring();
        s.build(10, 20, 5);
        s.raise(0, 200 - 106);
        s.turn(1);
        due.is("36 isSound()", s.isSound(), true);
        long before = s.digest();
        due.is("37 the same again", s.digest(), before);
        s.knock();
        due.is("37 the knocks are in it", s.digest() != before, true);
        due.is("36 nothing is told", s.house(3), 7);
        PlainSkylinesheet plain = new PlainSkylinesheet();
        due.is("37 a new one", new Skylinesheet().digest(), plain.digest());
        plain.build(10, 20, 5);
        plain.lay(1, 5, 25, 5, 25);
        Skylinesheet one = new Skylinesheet();
        one.build(10, 20, 5);
        one.lay(1, 5, 25, 5, 25);
        due.is("37 a building and a rectangle", one.digest(), plain.digest());
    }
}
