import java.math.BigInteger;

/** The "Returns" rows of the promises: the least, the most, what is at both ends, NONE, -9, empty and full. */
public final class EndsTest {
    private final Due due = new Due();

    public static void main(String[] args) {
        EndsTest test = new EndsTest();
        test.aNewObject();
        test.buildAndTear();
        test.raise();
        test.layAndTake();
        test.shiftToTheEdges();
        test.shiftIsToldOfItsSheet();
        test.turn();
        test.wipe();
        test.undo();
        test.blankAndKnock();
        test.ofBuilding();
        test.heightAndCorner();
        test.ladder();
        test.half();
        test.between();
        test.look();
        test.townEmptyAndFull();
        test.greatestHeight();
        test.sideBySide();
        test.ofRectangle();
        test.rowAndInked();
        test.along();
        test.ofSheetFull();
        test.deepestCell();
        test.piece();
        test.deep();
        test.both();
        test.house();
        test.would();
        test.adds();
        test.without();
        test.swept();
        test.isSound();
        test.digestWrapsAround();
        test.digestOfTheLastSix();
        test.digestOfManyHouses();
        test.due.end();
    }

    private static Skylinesheet with(int... buildings) {
        Skylinesheet s = new Skylinesheet();
        for (int n = 0; n < buildings.length; n += 3) {
            s.build(buildings[n], buildings[n + 1], buildings[n + 2]);
        }
        return s;
    }

    /** Rectangles on the sheet 0, each by four numbers. */
    private static Skylinesheet laid(int... sides) {
        Skylinesheet s = new Skylinesheet();
        for (int n = 0; n < sides.length; n += 4) {
            s.lay(0, sides[n], sides[n + 1], sides[n + 2], sides[n + 3]);
        }
        return s;
    }

    private static Skylinesheet full() {
        return laid(0, 30, 0, 30);
    }

    private void aNewObject() {
        Skylinesheet s = new Skylinesheet();
        for (int x = 0; x <= 200; x++) {
            due.is("1 the height at " + x, s.height(x) + s.half(0, x) + s.half(1, x), 0);
        }
        for (int sheet = 0; sheet <= 2; sheet++) {
            for (int y = 0; y < 30; y++) {
                due.is("1 the row " + y, s.row(sheet, y), ".".repeat(30));
            }
            for (int what = 0; what <= 11; what++) {
                due.is("1 ofSheet " + what, s.ofSheet(sheet, what), what >= 10 ? -1 : 0);
            }
        }
        due.is("1 two objects have nothing in common", with(0, 1, 1).house(0) + s.house(0), 1);
    }

    private void buildAndTear() {
        Skylinesheet s = with();
        for (int n = 0; n < 200; n++) {
            due.is("2 the number of the " + n + "th", s.build(n, 200, 1 + n % 99), n);
            due.is("3 alone it is all the shade", s.tear(n), (200 - n) * (1 + n % 99));
        }
        due.is("2 none stands", s.town(5), 0);
        Skylinesheet t = with(0, 200, 99, 0, 200, 99, 0, 200, 98, 7, 8, 1);
        due.is("3 by nothing, when one as high stands there", t.tear(0), 0);
        due.is("3 by what it was higher", t.tear(1), 200);
        due.is("3 by all but one x", t.tear(2), 199 * 98 + 97);
        due.is("3 the last one", t.tear(3), 1);
        due.is("3 nothing is left", t.skyline(), "-");
    }

    private void raise() {
        Skylinesheet s = with(5, 6, 50);
        due.is("4 just to 99", s.raise(0, 49), 99);
        due.is("4 to 100: NONE", s.raise(0, 1), -1);
        due.is("4 nothing changes", s.skyline(), "5:99 6:0");
        due.is("4 just to 1", s.raise(0, -98), 1);
        due.is("4 to 0: NONE", s.raise(0, -1), -1);
        due.is("4 to -98: NONE", s.raise(0, -99), -1);
        due.is("4 from 1 by 99: NONE", s.raise(0, 99), -1);
        due.is("4 nothing changes", s.ofBuilding(0, 2), 1);
        due.is("4 from 1 by 98", s.raise(0, 98), 99);
        due.is("4 from 99 by -99: NONE", s.raise(0, -99), -1);
        due.is("4 by 0", s.raise(0, 0), 99);
        due.is("4 each of them is told", s.house(3), 10);
        due.is("4 what is raised stays where it is", s.ofBuilding(0, 0) * 1000 + s.ofBuilding(0, 1), 5006);
    }

    private void layAndTake() {
        Skylinesheet s = new Skylinesheet();
        for (int n = 0; n < 120; n++) {
            int side = n % 30;
            due.is("5 the number of the " + n + "th", s.lay(n % 3, side, 30, 0, side + 1), n);
            due.is("6 alone it is all the area", s.take(n), (30 - side) * (side + 1));
        }
        Skylinesheet t = laid(0, 30, 0, 30, 0, 30, 0, 30, 0, 29, 0, 30, 7, 8, 3, 4);
        due.is("6 by nothing, when another one has its cells", t.take(0), 0);
        due.is("6 by a column", t.take(1), 30);
        t.lay(1, 0, 30, 0, 30);
        due.is("6 another sheet has nothing of it", t.take(2), 869);
        due.is("6 the last one of the sheet", t.take(3), 1);
        due.is("6 the other sheet is as it was", t.ofSheet(1, 0), 900);
    }

    private void shiftToTheEdges() {
        int[][] ways = {{-10, 0}, {8, 0}, {0, -11}, {0, 6}, {-10, -11}, {8, 6}, {-10, 6}, {8, -11}};
        for (int[] way : ways) {
            Skylinesheet s = laid(10, 22, 11, 24);
            String text = " by " + way[0] + " " + way[1];
            due.is("7 just to the edge" + text, s.shift(0, way[0], way[1]), 12 * 13);
            due.is("7 its left" + text, s.ofRectangle(0, 0), 10 + way[0]);
            due.is("7 its right" + text, s.ofRectangle(0, 1), 22 + way[0]);
            due.is("7 its top" + text, s.ofRectangle(0, 2), 11 + way[1]);
            due.is("7 its bottom" + text, s.ofRectangle(0, 3), 24 + way[1]);
            String before = Whole.seen(s);
            due.is("7 one further" + text, s.shift(0, Integer.signum(way[0]), Integer.signum(way[1])), -1);
            due.is("7 nothing changes" + text, Whole.seen(s), before);
            due.is("7 but it is told" + text, s.house(3), 3);
        }
        Skylinesheet s = laid(10, 22, 11, 24);
        due.is("7 within, but beyond the bottom", s.shift(0, 1, 7), -1);
        due.is("7 within, but beyond the right", s.shift(0, 9, 1), -1);
        due.is("7 within, but beyond the top", s.shift(0, 1, -12), -1);
        due.is("7 within, but beyond the left", s.shift(0, -11, 1), -1);
        due.is("7 not a bit of it is shifted", s.row(0, 11), "..........############........");
    }

    private void shiftIsToldOfItsSheet() {
        Skylinesheet s = full();
        due.is("7 a full sheet's by 0", s.shift(0, 0, 0), 900);
        due.is("7 a full sheet's by 1", s.shift(0, 1, 0), -1);
        s.lay(2, 0, 1, 0, 1);
        s.lay(2, 0, 1, 0, 1);
        due.is("7 the area of its sheet alone", s.shift(1, 29, 29), 2);
        due.is("7 one over the other", s.shift(2, 29, 29), 1);
        due.is("7 by -29 is allowed", s.shift(2, -29, -29), 2);
        due.is("7 by 30 is beyond for each", s.shift(2, 30, 0), -1);
        due.is("7 by -30, too", s.shift(1, 0, -30), -1);
    }

    private void turn() {
        Skylinesheet s = laid(0, 30, 29, 30, 3, 4, 0, 30);
        due.is("8 two lie", s.turn(0), 2);
        due.is("8 what was a row is a column", s.row(0, 0), ".............................#");
        due.is("8 what was a column is a row", s.row(0, 3), "#".repeat(30));
        s.turn(0);
        due.is("8 twice: as it was", s.row(0, 29), "#".repeat(30));
        due.is("8 an empty one", s.turn(1), 0);
        s.take(0);
        s.take(1);
        due.is("8 one of which all is taken", s.turn(0), 0);
        due.is("8 what is taken is not turned", s.ofRectangle(0, 2), 29);
        Skylinesheet many = new Skylinesheet();
        for (int n = 0; n < 24; n++) {
            many.lay(2, 0, 1, 0, 30);
        }
        due.is("8 24 lie", many.turn(2), 24);
    }

    private void wipe() {
        Skylinesheet s = full();
        s.lay(0, 5, 6, 5, 6);
        s.lay(1, 5, 6, 5, 6);
        due.is("9 a full one", s.wipe(0), 900);
        due.is("9 it is empty then", s.ofSheet(0, 0), 0);
        due.is("9 all are away", s.ofRectangle(0, 5) + s.ofRectangle(1, 5), 0);
        due.is("9 that of another sheet is not", s.ofRectangle(2, 5), 1);
        due.is("9 an empty one", s.wipe(0), 0);
        due.is("9 one that never had any", s.wipe(2), 0);
        due.is("9 the numbers stay", s.house(1), 3);
    }

    private void undo() {
        Skylinesheet s = new Skylinesheet();
        for (int n = 0; n < 256; n++) {
            s.turn(n % 3);
        }
        for (int n = 255; n >= 0; n--) {
            due.is("10 how many are told then", s.undo(), n);
        }
        due.state("10 none is left", s::undo);
        s.build(0, 1, 1);
        due.is("10 told anew", s.undo(), 0);
    }

    private void blankAndKnock() {
        Skylinesheet s = new Skylinesheet();
        for (int n = 1; n <= 100; n++) {
            due.is("11 -9 each time", s.blank(), -9);
            due.is("12 how often, with this", s.knock(), n);
        }
        due.is("11 counted", s.house(4), 100);
        due.is("12 counted", s.house(5), 100);
        due.is("11 -9 of each of three is counted", s.between(1, 0) + s.inked(0, 0, 1, 0) + s.blank(), -27);
        due.is("11 counted", s.house(4), 103);
    }

    private void ofBuilding() {
        Skylinesheet s = with(0, 200, 99, 0, 200, 99, 199, 200, 1, 0, 200, 98);
        int[][] want = {{0, 200, 99, 1, 1, 1, 200}, {0, 200, 99, 1, 1, 0, 200}, {199, 200, 1, 1, 1, 0, 0},
            {0, 200, 98, 1, 1, 0, 0}};
        for (int n = 0; n < want.length; n++) {
            for (int what = 0; what <= 6; what++) {
                due.is("13 ofBuilding(" + n + ", " + what + ")", s.ofBuilding(n, what), want[n][what]);
            }
        }
        s.tear(0);
        int[] torn = {0, 200, 99, 0, 0, 0, 0};
        for (int what = 0; what <= 6; what++) {
            due.is("13 torn: ofBuilding(0, " + what + ")", s.ofBuilding(0, what), torn[what]);
        }
        due.is("13 no more hidden", s.ofBuilding(1, 4), 0);
        due.is("13 seen then", s.ofBuilding(1, 5), 1);
        due.is("13 raised, then torn: its last height", raisedAndTorn().ofBuilding(0, 2), 7);
    }

    private static Skylinesheet raisedAndTorn() {
        Skylinesheet s = with(3, 4, 5);
        s.raise(0, 2);
        s.tear(0);
        return s;
    }

    private void heightAndCorner() {
        Skylinesheet s = with(0, 200, 99);
        due.is("14 at 0", s.height(0), 99);
        due.is("14 at 199", s.height(199), 99);
        due.is("14 at 200", s.height(200), 0);
        due.is("15 the first", s.corner(0, true), 99);
        due.is("15 the last", s.corner(1, false), 200);
        due.index("15 one behind the last", () -> s.corner(2, false));
        s.tear(0);
        due.index("15 none any more", () -> s.corner(0, false));
        due.is("16 -", s.skyline(), "-");
    }

    private void ladder() {
        Skylinesheet s = with(0, 200, 99);
        due.is("17 at all x but 200", s.ladder(99), 200);
        due.is("17 at all x but 200", s.ladder(1), 200);
        s.raise(0, -1);
        due.is("17 just below", s.ladder(99), 0);
        due.is("17 just that", s.ladder(98), 200);
        due.is("17 of no buildings", with().ladder(1), 0);
    }

    private void half() {
        Skylinesheet s = with(0, 1, 5, 0, 1, 7, 0, 1, 6, 199, 200, 9);
        due.is("18 the even ones, 0 and 2", s.half(0, 0), 6);
        due.is("18 the odd one", s.half(1, 0), 7);
        due.is("18 behind right", s.half(0, 1) + s.half(1, 1), 0);
        due.is("18 at 199", s.half(1, 199), 9);
        due.is("18 none of the even ones at 199", s.half(0, 199), 0);
        due.is("18 at 200", s.half(0, 200) + s.half(1, 200), 0);
        s.tear(2);
        due.is("18 one is torn", s.half(0, 0), 5);
        s.tear(0);
        due.is("18 both are torn", s.half(0, 0), 0);
        s.raise(1, 90);
        due.is("18 raised", s.half(1, 0), 97);
        s.raise(1, -96);
        due.is("18 lowered", s.half(1, 0), 1);
        s.tear(1);
        due.is("18 the odd one is torn", s.half(1, 0), 0);
        s.undo();
        due.is("18 the odd one is back", s.half(1, 0), 1);
    }

    private void between() {
        Skylinesheet s = with(0, 200, 5);
        due.is("19 both ends included", s.between(0, 200), 2);
        due.is("19 the first x alone", s.between(0, 0), 1);
        due.is("19 the last x alone", s.between(200, 200), 1);
        due.is("19 between them", s.between(1, 199), 0);
        due.is("19 an x without a turn", s.between(77, 77), 0);
        due.is("19 without the last", s.between(0, 199), 1);
        due.is("19 from as to is no -9", s.house(4), 0);
        due.is("19 from 200 to 0", s.between(200, 0), -9);
        due.is("19 from one above to", s.between(78, 77), -9);
        due.is("19 each is counted", s.house(4), 2);
        due.is("19 of no buildings", with().between(0, 200), 0);
        due.is("19 of no buildings, from above to", with().between(1, 0), -9);
    }

    private void look() {
        Skylinesheet s = with(0, 200, 5, 100, 101, 9);
        due.is("20 from 200 to smaller ones", s.look(200, 5, true), 199);
        due.is("20 from 0 to smaller ones: NONE", s.look(0, 1, true), -1);
        due.is("20 from 1 to smaller ones", s.look(1, 1, true), 0);
        due.is("20 from 0 to greater ones", s.look(0, 5, false), 1);
        due.is("20 from 199 to greater ones: NONE", s.look(199, 1, false), -1);
        due.is("20 from 198 to greater ones", s.look(198, 1, false), 199);
        due.is("20 from 200 to greater ones: NONE", s.look(200, 1, false), -1);
        due.is("20 just that height", s.look(0, 9, false), 100);
        due.is("20 just that height, from the other side", s.look(200, 9, true), 100);
        due.is("20 not x itself, to smaller ones", s.look(100, 6, true), -1);
        due.is("20 not x itself, to greater ones", s.look(100, 6, false), -1);
        due.is("20 one higher: NONE", s.look(0, 10, false), -1);
        due.is("20 of no buildings", with().look(100, 1, true), -1);
        due.is("20 of no buildings", with().look(100, 1, false), -1);
        due.is("20 from 200 to 0", with(0, 1, 1).look(200, 1, true), 0);
        due.is("20 from 0 to 199", with(199, 200, 1).look(0, 1, false), 199);
    }

    private void townEmptyAndFull() {
        Skylinesheet s = with(0, 200, 99);
        int[] want = {2, 19800, 198, 99, 0, 1, 0, 1, 200};
        for (int what = 0; what <= 8; what++) {
            due.is("21 full: town(" + what + ")", s.town(what), want[what]);
        }
        for (int n = 1; n < 24; n++) {
            s.build(0, 200, 99);
        }
        int[] crowd = {2, 19800, 198, 99, 0, 24, 24, 1, 200};
        for (int what = 0; what <= 8; what++) {
            due.is("21 24 alike: town(" + what + ")", s.town(what), crowd[what]);
        }
        for (int n = 0; n < 24; n++) {
            s.tear(n);
        }
        for (int what = 0; what <= 8; what++) {
            due.is("21 all torn: town(" + what + ")", s.town(what), what == 4 ? -1 : 0);
        }
    }

    private void greatestHeight() {
        due.is("21 at the first of two x", with(50, 60, 9, 70, 80, 9).town(4), 50);
        due.is("21 the smaller x, though built later", with(70, 80, 9, 50, 60, 9).town(4), 50);
        due.is("21 at x 0", with(0, 1, 1).town(4), 0);
        due.is("21 at x 199", with(0, 199, 1, 199, 200, 2).town(4), 199);
        due.is("21 amid one", with(0, 200, 1, 77, 78, 2).town(4), 77);
    }

    private void sideBySide() {
        due.is("21 one x", with(7, 8, 5).town(8), 1);
        due.is("21 two of one height side by side", with(0, 5, 7, 5, 9, 7).town(8), 9);
        due.is("21 two heights side by side", with(0, 5, 7, 5, 9, 6).town(8), 5);
        due.is("21 the second is longer", with(0, 5, 7, 5, 11, 6).town(8), 6);
        due.is("21 an x of 0 between", with(0, 5, 7, 6, 9, 7).town(8), 5);
        due.is("21 where it is 0 is not counted", with(100, 103, 7).town(8), 3);
        due.is("21 at the end", with(0, 3, 7, 190, 200, 7).town(8), 10);
        due.is("21 cut in two by a higher one", with(0, 100, 7, 40, 41, 9).town(8), 59);
    }

    private void ofRectangle() {
        Skylinesheet s = full();
        int[] alone = {0, 30, 0, 30, 0, 1, 0, 900};
        for (int what = 0; what <= 7; what++) {
            due.is("22 full: ofRectangle(0, " + what + ")", s.ofRectangle(0, what), alone[what]);
        }
        s.lay(0, 29, 30, 29, 30);
        due.is("22 one cell less", s.ofRectangle(0, 7), 899);
        due.is("22 no cell alone", s.ofRectangle(1, 7), 0);
        due.is("22 covered", s.ofRectangle(1, 6), 1);
        s.lay(0, 29, 30, 29, 30);
        due.is("22 three over one another", s.ofRectangle(0, 7), 899);
        s.lay(0, 0, 30, 0, 30);
        due.is("22 one as great over it", s.ofRectangle(0, 7), 0);
        due.is("22 both covered", s.ofRectangle(0, 6) + s.ofRectangle(3, 6), 2);
        s.take(0);
        int[] taken = {0, 30, 0, 30, 0, 0, 0, 0};
        for (int what = 0; what <= 7; what++) {
            due.is("22 taken: ofRectangle(0, " + what + ")", s.ofRectangle(0, what), taken[what]);
        }
        due.is("22 alone again", s.ofRectangle(3, 7), 899);
    }

    private void rowAndInked() {
        Skylinesheet s = laid(0, 1, 0, 1, 29, 30, 29, 30, 0, 30, 15, 16);
        due.is("24 the first cell", s.row(0, 0), "#" + ".".repeat(29));
        due.is("24 the last cell", s.row(0, 29), ".".repeat(29) + "#");
        due.is("24 a full row", s.row(0, 15), "#".repeat(30));
        due.is("24 an empty row", s.row(0, 14), ".".repeat(30));
        due.is("25 a full row", s.inked(0, 15, 0, 30), 30);
        due.is("25 without that", s.inked(0, 15, 0, 29), 29);
        due.is("25 from the one on", s.inked(0, 15, 1, 30), 29);
        due.is("25 from as to: none", s.inked(0, 15, 15, 15), 0);
        due.is("25 0 to 0", s.inked(0, 0, 0, 0), 0);
        due.is("25 30 to 30", s.inked(0, 29, 30, 30), 0);
        due.is("25 the first cell", s.inked(0, 0, 0, 1), 1);
        due.is("25 the last cell", s.inked(0, 29, 29, 30), 1);
        due.is("25 an empty row", s.inked(0, 14, 0, 30), 0);
        due.is("25 from as to is no -9", s.house(4), 0);
        due.is("25 30 to 0", s.inked(0, 15, 30, 0), -9);
        due.is("25 1 to 0 of an empty sheet", s.inked(2, 0, 1, 0), -9);
        due.is("25 each is counted", s.house(4), 2);
    }

    private void along() {
        Skylinesheet s = laid(0, 1, 0, 1, 29, 30, 0, 1);
        due.is("26 from 29 to 0", s.along(0, 29, 0, true), 0);
        due.is("26 from 0 to 29", s.along(0, 0, 0, false), 29);
        due.is("26 from 0 to smaller ones: NONE", s.along(0, 0, 0, true), -1);
        due.is("26 from 29 to greater ones: NONE", s.along(0, 29, 0, false), -1);
        due.is("26 the nearest one of two", s.along(0, 1, 0, true), 0);
        due.is("26 the nearest one of two", s.along(0, 28, 0, false), 29);
        due.is("26 another row: NONE", s.along(0, 15, 1, true), -1);
        due.is("26 another sheet: NONE", s.along(1, 15, 0, false), -1);
        due.is("26 the last row", laid(3, 4, 29, 30).along(0, 29, 29, true), 3);
        due.is("26 not that cell itself", laid(3, 4, 29, 30).along(0, 3, 29, true), -1);
        due.is("26 the nearest cell of many", full().along(0, 15, 15, true), 14);
        due.is("26 the nearest cell of many", full().along(0, 15, 15, false), 16);
    }

    private void ofSheetFull() {
        Skylinesheet s = new Skylinesheet();
        for (int n = 0; n < 24; n++) {
            s.lay(2, 0, 30, 0, 30);
        }
        int[] want = {900, 120, 4, 0, 1, 0, 1, 24, 24, 24, 0, 0};
        for (int what = 0; what <= 11; what++) {
            due.is("27 24 over one another: ofSheet(2, " + what + ")", s.ofSheet(2, what), want[what]);
            due.is("27 another sheet: ofSheet(1, " + what + ")", s.ofSheet(1, what), what >= 10 ? -1 : 0);
        }
        s.wipe(2);
        for (int what = 0; what <= 11; what++) {
            due.is("27 wiped: ofSheet(2, " + what + ")", s.ofSheet(2, what), what >= 10 ? -1 : 0);
        }
        Skylinesheet cell = laid(29, 30, 29, 30);
        int[] last = {1, 4, 4, 0, 1, 0, 1, 1, 0, 1, 29, 29};
        for (int what = 0; what <= 11; what++) {
            due.is("27 the last cell: ofSheet(0, " + what + ")", cell.ofSheet(0, what), last[what]);
        }
    }

    private void deepestCell() {
        due.is("27 the smallest y goes ahead of the smallest x", laid(20, 21, 3, 4, 5, 6, 4, 5).ofSheet(0, 10), 20);
        due.is("27 its y", laid(5, 6, 4, 5, 20, 21, 3, 4).ofSheet(0, 11), 3);
        due.is("27 of one y the smallest x", laid(20, 21, 3, 4, 5, 6, 3, 4).ofSheet(0, 10), 5);
        due.is("27 a greater depth goes ahead of a smaller y", laid(0, 30, 0, 30, 7, 9, 8, 9).ofSheet(0, 11), 8);
        due.is("27 its x", laid(0, 30, 0, 30, 7, 9, 8, 9).ofSheet(0, 10), 7);
        due.is("27 the last cell", laid(0, 30, 0, 30, 29, 30, 29, 30).ofSheet(0, 10), 29);
        due.is("27 the last cell", laid(0, 30, 0, 30, 29, 30, 29, 30).ofSheet(0, 11), 29);
        due.is("27 the depth 2", laid(0, 30, 0, 30, 29, 30, 29, 30).ofSheet(0, 9), 2);
    }

    private void piece() {
        due.is("28 a full sheet", full().piece(0, 29, 29), 900);
        due.is("28 one cell", laid(0, 1, 0, 1).piece(0, 0, 0), 1);
        due.is("28 the gap around it", laid(0, 1, 0, 1).piece(0, 29, 29), 899);
        due.is("28 one cell in the last corner", laid(29, 30, 29, 30).piece(0, 29, 29), 1);
        due.is("28 the gap beyond the sheet joins what a column parts", laid(9, 10, 0, 30).piece(0, 0, 0), 870);
        due.is("28 the cells beyond are not counted", laid(1, 30, 0, 30).piece(0, 0, 15), 30);
        due.is("28 two corners are of one gap", laid(1, 30, 0, 30, 0, 1, 1, 29).piece(0, 0, 0), 2);
        due.is("28 a hole of one cell", laid(0, 3, 0, 1, 0, 3, 2, 3, 0, 1, 0, 3, 2, 3, 0, 3).piece(0, 1, 1), 1);
        due.is("28 its part", laid(0, 3, 0, 1, 0, 3, 2, 3, 0, 1, 0, 3, 2, 3, 0, 3).piece(0, 2, 2), 8);
    }

    private void deep() {
        Skylinesheet s = new Skylinesheet();
        for (int n = 0; n < 24; n++) {
            s.lay(0, 0, 30, 0, n < 23 ? 30 : 1);
        }
        due.is("29 1 or more", s.deep(0, 1), 900);
        due.is("29 23 or more", s.deep(0, 23), 900);
        due.is("29 24", s.deep(0, 24), 30);
        due.is("29 an empty one", s.deep(1, 1) + s.deep(1, 24), 0);
        s.take(0);
        due.is("29 no more 24", s.deep(0, 24), 0);
        due.is("29 but 23", s.deep(0, 23), 30);
    }

    private void both() {
        Skylinesheet s = full();
        s.lay(1, 10, 13, 10, 13);
        int[][] want = {{900, 120, 4, 0, 1, 0, 1}, {9, 12, 4, 0, 1, 0, 1}, {891, 132, 4, 4, 1, 1, 4},
            {891, 132, 4, 4, 1, 1, 4}};
        int[] none = {0, 0, 0, 0, 0, 0, 0};
        for (int how = 0; how <= 3; how++) {
            for (int what = 0; what <= 6; what++) {
                String text = "30 both by " + how + " and " + what;
                due.is(text, s.both(0, 1, how, what), want[how][what]);
                due.is(text + ", the other way", s.both(1, 0, how, what), how == 2 ? 0 : want[how][what]);
                due.is(text + ", of an empty one twice", s.both(2, 2, how, what), 0);
                due.is(text + ", of a full one twice", s.both(0, 0, how, what), how < 2 ? want[0][what] : none[what]);
            }
        }
        due.is("30 what lies on them is as it was", s.ofSheet(0, 0) - s.ofSheet(1, 0), 891);
    }

    private void house() {
        Skylinesheet s = full();
        s.lay(1, 0, 30, 0, 30);
        s.lay(2, 0, 30, 0, 30);
        due.is("31 three full sheets", s.house(6), 2700);
        due.is("31 three lie", s.house(2), 3);
        s.take(1);
        due.is("31 laid ever", s.house(1), 3);
        due.is("31 two lie", s.house(2), 2);
        due.is("31 two full sheets", s.house(6), 1800);
        s.build(0, 1, 1);
        s.tear(0);
        due.is("31 built ever", s.house(0), 1);
        due.is("31 told", s.house(3), 6);
        s.undo();
        s.undo();
        due.is("31 what was undone was not built", s.house(0), 0);
    }

    private void would() {
        Skylinesheet s = with();
        due.is("32 the most shade", s.would(0, 200, 99, false), 19800);
        due.is("32 the least shade", s.would(199, 200, 1, false), 1);
        due.is("32 two turns", s.would(0, 200, 99, true), 2);
        due.is("32 nothing is built", s.house(0), 0);
        s.build(50, 100, 9);
        due.is("32 as it is: nothing more", s.would(50, 100, 9, false), 0);
        due.is("32 as it is: no turn more", s.would(50, 100, 9, true), 2);
        due.is("32 one higher", s.would(50, 100, 10, false), 50);
        due.is("32 one wider on each side", s.would(49, 101, 9, false), 18);
        due.is("32 lower and wider: two turns more", s.would(49, 101, 8, true), 4);
        due.is("32 two that touch", s.would(100, 150, 9, true), 2);
        due.is("32 two that do not", s.would(101, 150, 9, true), 4);
        due.is("32 over all turns", s.would(0, 200, 9, true), 2);
        due.is("32 nothing is changed", s.skyline(), "50:9 100:0");
        for (int n = 1; n < 24; n++) {
            s.build(0, 1, 1);
        }
        due.is("32 a 25th may be thought of", s.would(0, 1, 3, false), 2);
    }

    private void adds() {
        Skylinesheet s = new Skylinesheet();
        due.is("33 the most", s.adds(0, 0, 30, 0, 30), 900);
        due.is("33 the least", s.adds(0, 29, 30, 29, 30), 1);
        due.is("33 nothing is laid", s.house(1), 0);
        s.lay(0, 1, 30, 1, 30);
        due.is("33 what lies is not added", s.adds(0, 0, 30, 0, 30), 59);
        due.is("33 nothing more", s.adds(0, 1, 30, 1, 30), 0);
        due.is("33 a column", s.adds(0, 0, 2, 0, 30), 31);
        due.is("33 another sheet", s.adds(2, 1, 30, 1, 30), 841);
        for (int n = 1; n < 24; n++) {
            s.lay(1, 0, 1, 0, 1);
        }
        due.is("33 a 25th may be thought of", s.adds(0, 0, 1, 0, 1), 1);
    }

    private void without() {
        Skylinesheet s = with(0, 200, 99, 0, 100, 98);
        due.is("34 the most shade", s.without(true, 0), 19800 - 9800);
        due.is("34 a hidden one", s.without(true, 1), 0);
        s.lay(0, 0, 30, 0, 30);
        s.lay(1, 0, 30, 0, 30);
        s.lay(0, 5, 6, 5, 6);
        due.is("34 all but one cell", s.without(false, 0), 899);
        due.is("34 all of another sheet", s.without(false, 1), 900);
        due.is("34 a covered one", s.without(false, 2), 0);
        due.is("34 nothing is changed", s.house(6) + s.town(1), 1800 + 19800);
        s.tear(1);
        due.is("34 alone", s.without(true, 0), 19800);
        due.is("34 as tearing it", s.tear(0), 19800);
    }

    private void swept() {
        Skylinesheet s = full();
        due.is("35 the first column", s.swept(0, true, 0), 30);
        due.is("35 the last column", s.swept(0, true, 29), 30);
        due.is("35 the first row", s.swept(0, false, 0), 30);
        due.is("35 the last row", s.swept(0, false, 29), 30);
        due.is("35 of an empty one", s.swept(1, true, 0) + s.swept(1, false, 29), 0);
        s.lay(2, 28, 29, 0, 30);
        due.is("35 a column", s.swept(2, true, 28), 30);
        due.is("35 beside it", s.swept(2, true, 27) + s.swept(2, true, 29), 0);
        due.is("35 a row of it", s.swept(2, false, 29), 1);
    }

    private void isSound() {
        due.is("36 a new one", new Skylinesheet().isSound(), true);
        due.is("36 a full one", full().isSound(), true);
        Skylinesheet s = with(0, 200, 99, 0, 200, 99, 5, 9, 4, 5, 9, 4);
        for (int n = 0; n < 24; n++) {
            s.lay(n % 3, n, n + 1, 29 - n, 30 - n);
        }
        due.is("36 cells across from each other", s.isSound(), true);
        s.raise(0, 1);
        s.shift(0, 30, 30);
        s.tear(0);
        s.take(3);
        s.turn(1);
        s.wipe(2);
        due.is("36 after a NONE, and each kind of call", s.isSound(), true);
        s.undo();
        due.is("36 after undo()", s.isSound(), true);
        due.is("36 nothing is told by it", s.house(3), 33);
        Skylinesheet rings = new Skylinesheet();
        for (int n = 0; n < 6; n++) {
            rings.lay(n % 2, 2 * n, 30 - 2 * n, 2 * n, 2 * n + 1);
            rings.lay(n % 2, 2 * n, 30 - 2 * n, 29 - 2 * n, 30 - 2 * n);
            rings.lay(n % 2, 2 * n, 2 * n + 1, 2 * n, 30 - 2 * n);
            rings.lay(n % 2, 29 - 2 * n, 30 - 2 * n, 2 * n, 30 - 2 * n);
        }
        due.is("36 rings within rings", rings.isSound(), true);
        due.is("36 their holes", rings.ofSheet(0, 5) * 10 + rings.ofSheet(1, 5), 33);
        due.is("36 joined", rings.both(0, 1, 0, 5), 6);
    }

    // ---- the checksum, held against one that never wraps around

    private BigInteger sum;

    private void mix(long v) {
        sum = sum.multiply(BigInteger.valueOf(31)).add(BigInteger.valueOf(v));
    }

    private BigInteger sumOf(Skylinesheet s) {
        sum = BigInteger.valueOf(6197);
        for (int what = 0; what <= 6; what++) {
            mix(s.house(what));
        }
        for (int what = 0; what <= 8; what++) {
            mix(s.town(what));
        }
        for (int n = 0; n < s.town(0); n++) {
            mix(s.corner(n, false));
            mix(s.corner(n, true));
        }
        mix(s.height(0));
        mix(s.height(50));
        mix(s.height(100));
        mix(s.height(150));
        mix(s.ladder(1));
        mix(s.ladder(10));
        mix(s.ladder(50));
        mix(s.look(100, 5, true));
        mix(s.look(100, 5, false));
        for (int n = s.house(0) - 1; n >= Math.max(0, s.house(0) - 6); n--) {
            for (int what = 0; what <= 6; what++) {
                mix(s.ofBuilding(n, what));
            }
        }
        for (int n = s.house(1) - 1; n >= Math.max(0, s.house(1) - 6); n--) {
            for (int what = 0; what <= 7; what++) {
                mix(s.ofRectangle(n, what));
            }
        }
        sheets(s);
        mix(s.would(10, 30, 7, false));
        mix(s.would(10, 30, 7, true));
        mix(s.adds(0, 5, 15, 5, 15));
        mix(s.isSound() ? 1 : 0);
        return sum;
    }

    private void sheets(Skylinesheet s) {
        for (int sheet = 0; sheet <= 2; sheet++) {
            for (int what = 0; what <= 11; what++) {
                mix(s.ofSheet(sheet, what));
            }
            mix(s.deep(sheet, 2));
            mix(s.piece(sheet, 0, 0));
            mix(s.piece(sheet, 20, 20));
        }
        for (int how = 0; how <= 3; how++) {
            for (int what = 0; what <= 3; what++) {
                mix(s.both(0, 1, how, what));
            }
        }
    }

    private void digestWrapsAround() {
        boolean isBelowZero = false;
        boolean isAboveZero = false;
        Skylinesheet s = new Skylinesheet();
        for (int n = 0; n < 24; n++) {
            BigInteger whole = sumOf(s);
            due.is("37 the sum of " + n + " is beyond 64 bits", whole.bitLength() > 64, true);
            due.is("37 digest() of " + n + " wraps around", s.digest(), whole.longValue());
            isBelowZero |= s.digest() < 0;
            isAboveZero |= s.digest() > 0;
            s.build(8 * n, 8 * n + 5, 3 + 4 * n);
            s.lay(n % 3, n, n + 4, n / 2, n / 2 + 9);
        }
        due.is("37 it is below 0 now and then, and above", isBelowZero && isAboveZero, true);
    }

    private void digestOfTheLastSix() {
        Skylinesheet s = new Skylinesheet();
        for (int n = 0; n < 9; n++) {
            s.build(20 * n, 20 * n + 9, 50);
            s.lay(2, 3 * n, 3 * n + 2, 3, 5);
            due.is("37 of " + (n + 1) + " of each", s.digest(), sumOf(s).longValue());
        }
        s.tear(8);
        s.take(7);
        due.is("37 also of what is torn and taken", s.digest(), sumOf(s).longValue());
        long before = s.digest();
        s.blank();
        due.is("37 how often -9 was told is in it", s.digest(), sumOf(s).longValue());
        due.is("37 so it is another one", s.digest() == before, false);
        for (int n = 0; n < 20; n++) {
            s.undo();
            due.is("37 after undo()", s.digest(), sumOf(s).longValue());
        }
    }

    /** Houses in which what stands beside a place that digest() asks of answers otherwise, one time or another. */
    private void digestOfManyHouses() {
        Numbers numbers = new Numbers(37);
        for (int run = 0; run < 60; run++) {
            Skylinesheet s = new Skylinesheet();
            for (int n = numbers.below(9); n > 0; n--) {
                int left = numbers.below(8) == 0 ? 10 * numbers.below(20) : numbers.below(200);
                int right = Math.min(200, left + 1 + numbers.below(40));
                s.build(left, right, 1 + numbers.below(run % 2 == 0 ? 12 : 60));
            }
            for (int n = numbers.below(20); n > 0; n--) {
                int near = numbers.below(2) * 19;
                int left = near + numbers.below(4);
                int top = near + numbers.below(4);
                s.lay(numbers.below(3), left, left + 1 + numbers.below(2), top, top + 1 + numbers.below(2));
            }
            s.build(48 + numbers.below(3), 51 + numbers.below(2), 48 + numbers.below(4));
            s.build(148 + numbers.below(3), 151 + numbers.below(2), 8 + numbers.below(4));
            s.build(98 + numbers.below(2), 100 + numbers.below(3), 4 + numbers.below(3));
            s.build(numbers.below(2), 20, 1);
            due.is("37 digest() of the house " + run, s.digest(), sumOf(s).longValue());
        }
    }
}
