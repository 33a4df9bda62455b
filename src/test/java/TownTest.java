/** Promises 1 to 4, 10 to 21, 31, 32 and 34 by hand: buildings, the skyline, and what the house counts. */
public final class TownTest {
    private static final int MIN = Integer.MIN_VALUE;
    private static final int MAX = Integer.MAX_VALUE;

    private final Due due = new Due();

    public static void main(String[] args) {
        TownTest test = new TownTest();
        test.aNewObject();
        test.build();
        test.tear();
        test.raise();
        test.undo();
        test.blankAndKnock();
        test.ofBuilding();
        test.hidden();
        test.seenFromTheLeft();
        test.heightAndCorner();
        test.skylineAndLadder();
        test.half();
        test.between();
        test.look();
        test.town();
        test.house();
        test.would();
        test.without();
        test.due.end();
    }

    /** Heights: 5 at 10 to 19, 9 at 20 to 29, 5 at 30 to 39, 0, 9 at 50 to 54, 2 at 199. */
    private static Skylinesheet someTown() {
        Skylinesheet s = new Skylinesheet();
        s.build(10, 40, 5);
        s.build(20, 30, 9);
        s.build(50, 55, 9);
        s.build(199, 200, 2);
        return s;
    }

    private void aNewObject() {
        Skylinesheet s = new Skylinesheet();
        due.is("1 new: skyline()", s.skyline(), "-");
        for (int what = 0; what <= 8; what++) {
            due.is("1 new: town(" + what + ")", s.town(what), what == 4 ? -1 : 0);
        }
        for (int what = 0; what <= 6; what++) {
            due.is("1 new: house(" + what + ")", s.house(what), 0);
        }
        for (int sheet = 0; sheet <= 2; sheet++) {
            due.is("1 new: area", s.ofSheet(sheet, 0), 0);
            due.is("1 new: row", s.row(sheet, 29), "..............................");
        }
        due.is("1 new: isSound()", s.isSound(), true);
    }

    private void build() {
        Skylinesheet s = new Skylinesheet();
        due.is("2 build", s.build(0, 1, 1), 0);
        due.is("2 build", s.build(199, 200, 99), 1);
        due.is("2 build", s.build(0, 200, 1), 2);
        int[][] wrong = {{-1, 5, 1}, {200, 201, 1}, {200, 200, 1}, {5, 5, 1}, {5, 4, 1}, {5, 201, 1}, {5, 6, 0},
            {5, 6, 100}, {MIN, 5, 1}, {MAX, MIN, 1}, {5, MAX, 1}, {5, 6, MIN}, {5, 6, MAX}};
        for (int[] w : wrong) {
            due.argument("2 build " + w[0] + " " + w[1] + " " + w[2], () -> s.build(w[0], w[1], w[2]));
        }
        due.is("2 wrong ones build nothing", s.house(0), 3);
        due.is("2 wrong ones are not told", s.house(3), 3);
        for (int n = 3; n < 24; n++) {
            due.is("2 build", s.build(n, n + 1, 3), n);
        }
        due.state("2 build the 25th", () -> s.build(0, 1, 1));
        due.argument("2 the argument goes ahead of the state", () -> s.build(0, 0, 1));
        s.tear(4);
        due.is("2 build when one is torn", s.build(0, 1, 1), 24);
        due.state("2 build the 25th again", () -> s.build(0, 1, 1));
        due.is("2 24 stand", s.town(5), 24);
    }

    private void tear() {
        Skylinesheet s = someTown();
        due.is("3 tear", s.tear(1), 40);
        due.is("3 skyline()", s.skyline(), "10:5 40:0 50:9 55:0 199:2 200:0");
        due.state("3 tear twice", () -> s.tear(1));
        due.index("3 tear 4", () -> s.tear(4));
        due.index("3 tear -1", () -> s.tear(-1));
        due.index("3 tear MAX", () -> s.tear(MAX));
        due.index("3 tear MIN", () -> s.tear(MIN));
        due.is("3 told", s.house(3), 5);
        due.is("3 tear", s.tear(0), 150);
        s.build(50, 55, 9);
        due.is("3 tear a hidden one", s.tear(2), 0);
    }

    private void raise() {
        Skylinesheet s = someTown();
        due.is("4 raise", s.raise(0, 3), 8);
        due.is("4 raise to 99", s.raise(0, 91), 99);
        due.is("4 raise beyond 99", s.raise(0, 1), -1);
        due.is("4 raise to 1", s.raise(0, -98), 1);
        due.is("4 raise below 1", s.raise(0, -1), -1);
        due.is("4 raise by -99", s.raise(0, -99), -1);
        due.is("4 raise by 99", s.raise(0, 99), -1);
        due.is("4 raise by 0", s.raise(0, 0), 1);
        due.is("4 NONE is told, too", s.house(3), 12);
        due.is("4 height", s.ofBuilding(0, 2), 1);
        due.argument("4 raise by 100", () -> s.raise(0, 100));
        due.argument("4 raise by -100", () -> s.raise(0, -100));
        due.argument("4 raise by MIN", () -> s.raise(0, MIN));
        due.index("4 raise 4", () -> s.raise(4, 1));
        due.index("4 the index goes ahead of the argument", () -> s.raise(-1, 100));
        s.tear(2);
        due.argument("4 the argument goes ahead of the state", () -> s.raise(2, 100));
        due.state("4 raise what does not stand", () -> s.raise(2, 1));
        due.is("4 told", s.house(3), 13);
    }

    private void undo() {
        Skylinesheet s = someTown();
        String before = s.skyline();
        s.tear(1);
        due.is("10 undo tear", s.undo(), 4);
        due.is("10 skyline()", s.skyline(), before);
        s.raise(0, 90);
        s.undo();
        due.is("10 undo raise", s.skyline(), before);
        s.raise(0, -50);
        due.is("10 undo a NONE", s.undo(), 4);
        due.is("10 skyline()", s.skyline(), before);
        due.is("10 undo build", s.undo(), 3);
        due.is("10 built", s.house(0), 3);
        due.index("10 what was built is none any more", () -> s.ofBuilding(3, 0));
        due.is("10 its number is given again", s.build(1, 2, 3), 3);
        s.blank();
        s.knock();
        due.is("10 undo", s.undo(), 3);
        due.is("10 -9 stays counted", s.house(4), 1);
        due.is("10 knocks stay counted", s.house(5), 1);
        due.is("10 undo", s.undo() + s.undo() + s.undo(), 3);
        due.state("10 nothing is told", s::undo);
        due.is("10 skyline()", s.skyline(), "-");
        undoOnSheets();
    }

    private void undoOnSheets() {
        Skylinesheet s = new Skylinesheet();
        s.lay(1, 0, 10, 0, 3);
        s.lay(1, 20, 25, 0, 3);
        s.take(1);
        s.turn(1);
        s.shift(0, 5, 5);
        s.wipe(1);
        due.is("10 undo wipe", s.undo(), 5);
        due.is("10 area", s.ofSheet(1, 0), 30);
        due.is("10 undo shift", s.undo(), 4);
        due.is("10 left", s.ofRectangle(0, 0), 0);
        due.is("10 undo turn", s.undo(), 3);
        due.is("10 right", s.ofRectangle(0, 1), 10);
        due.is("10 undo take", s.undo(), 2);
        due.is("10 lies", s.ofRectangle(1, 5), 1);
        due.is("10 undo lay", s.undo(), 1);
        due.index("10 no such rectangle", () -> s.take(1));
        s.wipe(0);
        s.wipe(0);
        due.is("10 wipes are told, too", s.undo(), 2);
    }

    private void blankAndKnock() {
        Skylinesheet s = new Skylinesheet();
        due.is("11 blank()", s.blank(), -9);
        due.is("11 blank()", s.blank(), -9);
        due.is("11 it is counted", s.house(4), 2);
        due.is("11 it is not told", s.house(3), 0);
        due.is("12 knock()", s.knock(), 1);
        due.is("12 knock()", s.knock(), 2);
        due.is("12 it is counted", s.house(5), 2);
        due.is("12 it is not told", s.house(3), 0);
        s.build(0, 1, 1);
        s.undo();
        due.is("12 ever", s.knock(), 3);
    }

    private void ofBuilding() {
        Skylinesheet s = someTown();
        int[] want = {10, 40, 5, 1, 0, 1, 20};
        for (int what = 0; what <= 6; what++) {
            due.is("13 ofBuilding(0, " + what + ")", s.ofBuilding(0, what), want[what]);
        }
        due.argument("13 what -1", () -> s.ofBuilding(0, -1));
        due.argument("13 what 7", () -> s.ofBuilding(0, 7));
        due.index("13 building 4", () -> s.ofBuilding(4, 0));
        due.index("13 the index goes ahead of the argument", () -> s.ofBuilding(-1, 7));
        s.tear(0);
        int[] torn = {10, 40, 5, 0, 0, 0, 0};
        for (int what = 0; what <= 6; what++) {
            due.is("13 torn: ofBuilding(0, " + what + ")", s.ofBuilding(0, what), torn[what]);
        }
    }

    private void hidden() {
        Skylinesheet s = new Skylinesheet();
        s.build(10, 20, 5);
        s.build(10, 15, 5);
        due.is("13 hidden by one as high", s.ofBuilding(1, 4), 1);
        due.is("13 not hidden beyond it", s.ofBuilding(0, 4), 0);
        due.is("13 as high as the skyline", s.ofBuilding(1, 6), 5);
        s.build(15, 20, 6);
        due.is("13 hidden by two together", s.ofBuilding(0, 4), 1);
        due.is("13 both of two may be hidden, each by the other", s.town(6), 2);
        due.is("13 hidden in part", s.ofBuilding(0, 6), 5);
        s.tear(1);
        due.is("13 hidden no more", s.ofBuilding(0, 4), 0);
    }

    private void seenFromTheLeft() {
        Skylinesheet s = new Skylinesheet();
        s.build(10, 20, 5);
        s.build(10, 30, 5);
        s.build(10, 12, 4);
        s.build(11, 50, 5);
        s.build(150, 160, 6);
        s.build(9, 10, 1);
        int[] want = {1, 0, 0, 0, 1, 1};
        for (int n = 0; n < 6; n++) {
            due.is("13 seen from the left: " + n, s.ofBuilding(n, 5), want[n]);
        }
        due.is("21 seen from the left", s.town(7), 3);
        s.tear(0);
        due.is("13 seen behind what is torn", s.ofBuilding(1, 5), 1);
        s.raise(2, 2);
        due.is("13 lower at the same left", s.ofBuilding(1, 5), 0);
        due.is("13 higher at the same left", s.ofBuilding(2, 5), 1);
        due.is("13 as high as one at the left", s.ofBuilding(4, 5), 0);
    }

    private void heightAndCorner() {
        Skylinesheet s = someTown();
        int[][] want = {{0, 0}, {9, 0}, {10, 5}, {19, 5}, {20, 9}, {29, 9}, {30, 5}, {40, 0}, {199, 2}, {200, 0}};
        for (int[] w : want) {
            due.is("14 height(" + w[0] + ")", s.height(w[0]), w[1]);
        }
        due.argument("14 height(-1)", () -> s.height(-1));
        due.argument("14 height(201)", () -> s.height(201));
        int[][] turns = {{10, 5}, {20, 9}, {30, 5}, {40, 0}, {50, 9}, {55, 0}, {199, 2}, {200, 0}};
        for (int n = 0; n < turns.length; n++) {
            due.is("15 corner(" + n + ", false)", s.corner(n, false), turns[n][0]);
            due.is("15 corner(" + n + ", true)", s.corner(n, true), turns[n][1]);
        }
        due.index("15 corner(8)", () -> s.corner(8, true));
        due.index("15 corner(-1)", () -> s.corner(-1, false));
        due.index("15 corner(MAX)", () -> s.corner(MAX, false));
        due.index("15 corner(0) without any", () -> new Skylinesheet().corner(0, false));
        s.build(0, 3, 7);
        due.is("15 a turn at 0", s.corner(0, false), 0);
        due.is("15 its height", s.corner(0, true), 7);
    }

    private void skylineAndLadder() {
        Skylinesheet s = someTown();
        due.is("16 skyline()", s.skyline(), "10:5 20:9 30:5 40:0 50:9 55:0 199:2 200:0");
        s.build(40, 50, 5);
        due.is("16 side by side", s.skyline(), "10:5 20:9 30:5 50:9 55:0 199:2 200:0");
        s.build(0, 200, 99);
        due.is("16 from end to end", s.skyline(), "0:99 200:0");
        s.undo();
        s.undo();
        int[][] want = {{1, 36}, {2, 36}, {3, 35}, {5, 35}, {6, 15}, {9, 15}, {10, 0}, {99, 0}};
        for (int[] w : want) {
            due.is("17 ladder(" + w[0] + ")", s.ladder(w[0]), w[1]);
        }
        due.argument("17 ladder(0)", () -> s.ladder(0));
        due.argument("17 ladder(100)", () -> s.ladder(100));
    }

    private void half() {
        Skylinesheet s = someTown();
        due.is("18 half(0, 25)", s.half(0, 25), 5);
        due.is("18 half(1, 25)", s.half(1, 25), 9);
        due.is("18 half(1, 15)", s.half(1, 15), 0);
        due.is("18 half(0, 200)", s.half(0, 200), 0);
        due.is("18 half(1, 199)", s.half(1, 199), 2);
        s.tear(0);
        due.is("18 half(0, 25) torn", s.half(0, 25), 0);
        due.argument("18 rest 2", () -> s.half(2, 0));
        due.argument("18 rest -1", () -> s.half(-1, 0));
        due.argument("18 x -1", () -> s.half(0, -1));
        due.argument("18 x 201", () -> s.half(0, 201));
    }

    private void between() {
        Skylinesheet s = someTown();
        due.is("19 between(0, 200)", s.between(0, 200), 8);
        due.is("19 both included", s.between(10, 20), 2);
        due.is("19 without both", s.between(11, 19), 0);
        due.is("19 one x", s.between(200, 200), 1);
        due.is("19 not counted yet", s.house(4), 0);
        due.is("19 from above to", s.between(20, 19), -9);
        due.is("19 it is counted", s.house(4), 1);
        due.argument("19 from -1", () -> s.between(-1, 5));
        due.argument("19 from 201, ahead of the -9", () -> s.between(201, 5));
        due.argument("19 to 201", () -> s.between(0, 201));
        due.argument("19 to -1, ahead of the -9", () -> s.between(0, -1));
        due.is("19 exceptions are not counted", s.house(4), 1);
    }

    private void look() {
        Skylinesheet s = someTown();
        due.is("20 to the left", s.look(40, 5, true), 39);
        due.is("20 to the left, higher", s.look(40, 6, true), 29);
        due.is("20 not x itself", s.look(10, 5, true), -1);
        due.is("20 to the right", s.look(10, 5, false), 11);
        due.is("20 to the right, higher", s.look(10, 9, false), 20);
        due.is("20 to the right, far", s.look(55, 1, false), 199);
        due.is("20 too high", s.look(55, 3, false), -1);
        due.is("20 from the end", s.look(200, 2, true), 199);
        due.is("20 beyond the end", s.look(200, 1, false), -1);
        due.is("20 beyond the start", s.look(0, 1, true), -1);
        due.argument("20 x -1", () -> s.look(-1, 1, true));
        due.argument("20 x 201", () -> s.look(201, 1, true));
        due.argument("20 height 0", () -> s.look(0, 0, true));
        due.argument("20 height 100", () -> s.look(0, 100, true));
        s.build(0, 1, 1);
        due.is("20 x 0", s.look(10, 1, true), 0);
    }

    private void town() {
        Skylinesheet s = someTown();
        // shade 20 * 5 + 10 * 9 + 5 * 9 + 2; face 5 + 4 + 4 + 5 + 9 + 9 + 2 + 2
        int[] want = {8, 237, 40, 9, 20, 4, 0, 2, 10};
        for (int what = 0; what <= 8; what++) {
            due.is("21 town(" + what + ")", s.town(what), want[what]);
        }
        s.build(199, 200, 1);
        due.is("21 hidden", s.town(6), 1);
        s.build(189, 199, 2);
        due.is("21 the same height side by side", s.town(8), 11);
        Skylinesheet ends = new Skylinesheet();
        ends.build(0, 1, 9);
        ends.build(198, 200, 8);
        due.is("21 the greatest height at x 0", ends.town(3), 9);
        due.is("21 the first x that has it", ends.town(4), 0);
        ends.raise(1, 2);
        due.is("21 the greatest height at the end", ends.town(3), 10);
        due.is("21 the first x that has it", ends.town(4), 198);
        due.is("21 the same height up to the end", ends.town(8), 2);
        due.argument("21 town(-1)", () -> s.town(-1));
        due.argument("21 town(9)", () -> s.town(9));
    }

    private void house() {
        Skylinesheet s = someTown();
        s.tear(3);
        s.lay(0, 0, 10, 0, 1);
        s.lay(1, 0, 10, 0, 2);
        s.lay(2, 0, 10, 0, 3);
        s.lay(2, 0, 10, 0, 3);
        s.take(0);
        s.blank();
        s.knock();
        s.inked(0, 0, 1, 0);
        int[] want = {4, 4, 3, 10, 2, 1, 50};
        for (int what = 0; what <= 6; what++) {
            due.is("31 house(" + what + ")", s.house(what), want[what]);
        }
        due.argument("31 house(-1)", () -> s.house(-1));
        due.argument("31 house(7)", () -> s.house(7));
    }

    private void would() {
        Skylinesheet s = someTown();
        due.is("32 hidden", s.would(10, 40, 5, false), 0);
        due.is("32 no turn more", s.would(10, 40, 5, true), 8);
        due.is("32 over all", s.would(0, 200, 99, false), 19800 - 237);
        due.is("32 two turns", s.would(0, 200, 99, true), 2);
        due.is("32 in between", s.would(45, 60, 4, false), 40);
        due.is("32 turns", s.would(45, 60, 4, true), 10);
        due.is("32 joined", s.would(40, 50, 5, true), 7);
        due.is("32 nothing is changed", s.skyline(), "10:5 20:9 30:5 40:0 50:9 55:0 199:2 200:0");
        due.is("32 nothing is told", s.house(3), 4);
        int[][] wrong = {{-1, 5, 1}, {200, 201, 1}, {5, 5, 1}, {5, 201, 1}, {5, 6, 0}, {5, 6, 100}, {MAX, MIN, 1}};
        for (int[] w : wrong) {
            due.argument("32 would " + w[0] + " " + w[1] + " " + w[2], () -> s.would(w[0], w[1], w[2], true));
        }
        for (int n = 4; n < 24; n++) {
            s.build(0, 1, 1);
        }
        due.is("32 when 24 stand", s.would(0, 1, 3, false), 2);
    }

    private void without() {
        Skylinesheet s = someTown();
        due.is("34 without(true, 0)", s.without(true, 0), 100);
        due.is("34 without(true, 1)", s.without(true, 1), 40);
        due.is("34 without(true, 3)", s.without(true, 3), 2);
        s.build(50, 55, 9);
        due.is("34 hidden", s.without(true, 4), 0);
        s.tear(1);
        due.state("34 torn", () -> s.without(true, 1));
        due.index("34 no such one", () -> s.without(true, 5));
        due.index("34 -1", () -> s.without(true, -1));
        due.index("34 no such rectangle", () -> s.without(false, 0));
        due.is("34 nothing is told", s.house(3), 6);
    }
}
