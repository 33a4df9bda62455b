/**
 * Each "Throws" row of the document: both ends of what is allowed, the numbers just beyond them and far away,
 * which exception goes ahead of which, and that what throws changes nothing, neither the house nor what is told.
 */
public final class RefusalsTest {
    private static final int MIN = Integer.MIN_VALUE;
    private static final int MAX = Integer.MAX_VALUE;
    private static final Class<IndexOutOfBoundsException> INDEX = IndexOutOfBoundsException.class;
    private static final Class<IllegalArgumentException> ARGUMENT = IllegalArgumentException.class;
    private static final Class<IllegalStateException> STATE = IllegalStateException.class;

    /** Makes the same object whenever it is asked. */
    private interface House {
        Skylinesheet made();
    }

    private interface Call {
        Object made(Skylinesheet s);
    }

    /** A call of which one number is left open. */
    private interface Asked {
        Object made(Skylinesheet s, int number);
    }

    private final Due due = new Due();

    public static void main(String[] args) {
        RefusalsTest test = new RefusalsTest();
        test.buildings();
        test.lay();
        test.rectangles();
        test.theSkyline();
        test.ofRectangle();
        test.cells();
        test.ofSheets();
        test.whatWouldBe();
        test.noneThere();
        test.full();
        test.theFirstNamedGoesAhead();
        test.exceptionsGoAheadOfTheNine();
        test.due.end();
    }

    /** Buildings 0 to 2, of which 1 is torn; four turns; rectangles 0 to 2, of which 1 is taken; one -9, two knocks. */
    private static Skylinesheet some() {
        Skylinesheet s = new Skylinesheet();
        s.build(10, 40, 50);
        s.build(20, 30, 60);
        s.build(60, 200, 50);
        s.tear(1);
        s.lay(0, 10, 20, 10, 20);
        s.lay(1, 0, 30, 0, 30);
        s.lay(2, 10, 20, 10, 20);
        s.take(1);
        s.blank();
        s.knock();
        s.knock();
        return s;
    }

    /** As many as may stand and lie, these on all three sheets together. */
    private static Skylinesheet crowd() {
        Skylinesheet s = new Skylinesheet();
        for (int n = 0; n < 24; n++) {
            s.build(n, n + 9, 1 + n);
            s.lay(n % 3, n, n + 5, n, n + 4);
        }
        return s;
    }

    private void refused(String call, Class<? extends RuntimeException> want, House house, Call asked) {
        Skylinesheet s = house.made();
        due.isThrown(call, want, () -> asked.made(s));
        due.is(call + " changes nothing", Whole.back(s), Whole.back(house.made()));
    }

    /** The call takes first and last, and refuses what lies beyond them. */
    private void bounds(String call, Class<? extends RuntimeException> want, int first, int last, Asked asked) {
        for (int n : new int[] {first, last}) {
            String answer = "an answer";
            try {
                asked.made(some(), n);
            } catch (RuntimeException e) {
                answer = e.getClass().getName();
            }
            due.is(call + " by " + n, answer, "an answer");
        }
        for (int n : new int[] {first - 1, last + 1, MIN, MAX}) {
            refused(call + " by " + n, want, RefusalsTest::some, s -> asked.made(s, n));
        }
    }

    private void arguments(String call, int first, int last, Asked asked) {
        bounds(call, ARGUMENT, first, last, asked);
    }

    private void indices(String call, int first, int last, Asked asked) {
        bounds(call, INDEX, first, last, asked);
    }

    private void buildings() {
        arguments("2 build: left", 0, 199, (s, n) -> s.build(n, 200, 5));
        arguments("2 build: right behind left 0", 1, 200, (s, n) -> s.build(0, n, 5));
        arguments("2 build: right behind left 77", 78, 200, (s, n) -> s.build(77, n, 5));
        arguments("2 build: right behind left 199", 200, 200, (s, n) -> s.build(199, n, 5));
        arguments("2 build: height", 1, 99, (s, n) -> s.build(5, 8, n));
        refused("2 build: right below left", ARGUMENT, RefusalsTest::some, s -> s.build(77, 76, 5));
        refused("2 build: right as left", ARGUMENT, RefusalsTest::some, s -> s.build(77, 77, 5));
        indices("3 tear", 0, 2, (s, n) -> s.tear(n));
        refused("3 tear what does not stand", STATE, RefusalsTest::some, s -> s.tear(1));
        indices("4 raise", 0, 2, (s, n) -> s.raise(n, 1));
        arguments("4 raise: by", -99, 99, (s, n) -> s.raise(0, n));
        refused("4 raise what does not stand", STATE, RefusalsTest::some, s -> s.raise(1, 1));
        refused("4 raise what does not stand by 0", STATE, RefusalsTest::some, s -> s.raise(1, 0));
        refused("4 raise what does not stand too high", STATE, RefusalsTest::some, s -> s.raise(1, 99));
    }

    private void lay() {
        indices("5 lay: sheet", 0, 2, (s, n) -> s.lay(n, 0, 1, 0, 1));
        arguments("5 lay: left", 0, 29, (s, n) -> s.lay(0, n, 30, 4, 5));
        arguments("5 lay: right behind left 0", 1, 30, (s, n) -> s.lay(0, 0, n, 4, 5));
        arguments("5 lay: right behind left 11", 12, 30, (s, n) -> s.lay(0, 11, n, 4, 5));
        arguments("5 lay: right behind left 29", 30, 30, (s, n) -> s.lay(0, 29, n, 4, 5));
        arguments("5 lay: top", 0, 29, (s, n) -> s.lay(0, 4, 5, n, 30));
        arguments("5 lay: bottom behind top 0", 1, 30, (s, n) -> s.lay(0, 4, 5, 0, n));
        arguments("5 lay: bottom behind top 11", 12, 30, (s, n) -> s.lay(0, 4, 5, 11, n));
        arguments("5 lay: bottom behind top 29", 30, 30, (s, n) -> s.lay(0, 4, 5, 29, n));
        refused("5 lay: right below left", ARGUMENT, RefusalsTest::some, s -> s.lay(0, 11, 10, 4, 5));
        refused("5 lay: bottom below top", ARGUMENT, RefusalsTest::some, s -> s.lay(0, 4, 5, 11, 10));
    }

    private void rectangles() {
        indices("6 take", 0, 2, (s, n) -> s.take(n));
        refused("6 take what does not lie", STATE, RefusalsTest::some, s -> s.take(1));
        indices("7 shift", 0, 2, (s, n) -> s.shift(n, 1, 1));
        arguments("7 shift: right", -30, 30, (s, n) -> s.shift(0, n, 0));
        arguments("7 shift: down", -30, 30, (s, n) -> s.shift(0, 0, n));
        refused("7 shift what does not lie", STATE, RefusalsTest::some, s -> s.shift(1, 1, 1));
        refused("7 shift what does not lie by 0", STATE, RefusalsTest::some, s -> s.shift(1, 0, 0));
        refused("7 shift what does not lie beyond", STATE, RefusalsTest::some, s -> s.shift(1, 30, 30));
        indices("8 turn", 0, 2, (s, n) -> s.turn(n));
        indices("9 wipe", 0, 2, (s, n) -> s.wipe(n));
        refused("6 take what was wiped", STATE, RefusalsTest::wiped, s -> s.take(0));
        refused("7 shift what was wiped", STATE, RefusalsTest::wiped, s -> s.shift(0, 1, 1));
    }

    private static Skylinesheet wiped() {
        Skylinesheet s = some();
        s.wipe(0);
        return s;
    }

    private void theSkyline() {
        indices("13 ofBuilding", 0, 2, (s, n) -> s.ofBuilding(n, 0));
        arguments("13 ofBuilding: what", 0, 6, (s, n) -> s.ofBuilding(0, n));
        arguments("13 ofBuilding: what of one that is torn", 0, 6, (s, n) -> s.ofBuilding(1, n));
        arguments("14 height: x", 0, 200, (s, n) -> s.height(n));
        indices("15 corner: its x", 0, 3, (s, n) -> s.corner(n, false));
        indices("15 corner: its height", 0, 3, (s, n) -> s.corner(n, true));
        arguments("17 ladder: height", 1, 99, (s, n) -> s.ladder(n));
        arguments("18 half: rest", 0, 1, (s, n) -> s.half(n, 5));
        arguments("18 half: x", 0, 200, (s, n) -> s.half(0, n));
        arguments("18 half: x of odd ones", 0, 200, (s, n) -> s.half(1, n));
        arguments("19 between: from", 0, 200, (s, n) -> s.between(n, 200));
        arguments("19 between: from a greater one", 0, 200, (s, n) -> s.between(n, 0));
        arguments("19 between: to", 0, 200, (s, n) -> s.between(0, n));
        arguments("19 between: to a smaller one", 0, 200, (s, n) -> s.between(200, n));
        arguments("20 look: x", 0, 200, (s, n) -> s.look(n, 5, true));
        arguments("20 look: x, to greater ones", 0, 200, (s, n) -> s.look(n, 5, false));
        arguments("20 look: height", 1, 99, (s, n) -> s.look(5, n, true));
        arguments("20 look: height, to greater ones", 1, 99, (s, n) -> s.look(5, n, false));
        arguments("21 town: what", 0, 8, (s, n) -> s.town(n));
    }

    private void ofRectangle() {
        indices("22 ofRectangle", 0, 2, (s, n) -> s.ofRectangle(n, 0));
        arguments("22 ofRectangle: what", 0, 7, (s, n) -> s.ofRectangle(0, n));
        arguments("22 ofRectangle: what of one that is taken", 0, 7, (s, n) -> s.ofRectangle(1, n));
    }

    private void cells() {
        indices("23 depth: sheet", 0, 2, (s, n) -> s.depth(n, 5, 5));
        arguments("23 depth: x", 0, 29, (s, n) -> s.depth(0, n, 5));
        arguments("23 depth: y", 0, 29, (s, n) -> s.depth(0, 5, n));
        indices("24 row: sheet", 0, 2, (s, n) -> s.row(n, 5));
        arguments("24 row: y", 0, 29, (s, n) -> s.row(0, n));
        indices("25 inked: sheet", 0, 2, (s, n) -> s.inked(n, 5, 0, 30));
        arguments("25 inked: y", 0, 29, (s, n) -> s.inked(0, n, 0, 30));
        arguments("25 inked: from", 0, 30, (s, n) -> s.inked(0, 5, n, 30));
        arguments("25 inked: from a greater one", 0, 30, (s, n) -> s.inked(0, 5, n, 0));
        arguments("25 inked: to", 0, 30, (s, n) -> s.inked(0, 5, 0, n));
        arguments("25 inked: to a smaller one", 0, 30, (s, n) -> s.inked(0, 5, 30, n));
        indices("26 along: sheet", 0, 2, (s, n) -> s.along(n, 5, 5, true));
        arguments("26 along: x", 0, 29, (s, n) -> s.along(0, n, 5, true));
        arguments("26 along: x, to greater ones", 0, 29, (s, n) -> s.along(0, n, 5, false));
        arguments("26 along: y", 0, 29, (s, n) -> s.along(0, 5, n, true));
        arguments("26 along: y, to greater ones", 0, 29, (s, n) -> s.along(0, 5, n, false));
        indices("28 piece: sheet", 0, 2, (s, n) -> s.piece(n, 5, 5));
        arguments("28 piece: x", 0, 29, (s, n) -> s.piece(0, n, 5));
        arguments("28 piece: y", 0, 29, (s, n) -> s.piece(0, 5, n));
    }

    private void ofSheets() {
        indices("27 ofSheet: sheet", 0, 2, (s, n) -> s.ofSheet(n, 0));
        arguments("27 ofSheet: what", 0, 11, (s, n) -> s.ofSheet(0, n));
        arguments("27 ofSheet: what of an empty one", 0, 11, (s, n) -> s.ofSheet(1, n));
        indices("29 deep: sheet", 0, 2, (s, n) -> s.deep(n, 1));
        arguments("29 deep: depth", 1, 24, (s, n) -> s.deep(0, n));
        indices("30 both: one", 0, 2, (s, n) -> s.both(n, 1, 0, 0));
        indices("30 both: other", 0, 2, (s, n) -> s.both(1, n, 0, 0));
        indices("30 both: one and the same", 0, 2, (s, n) -> s.both(n, n, 0, 0));
        arguments("30 both: how", 0, 3, (s, n) -> s.both(0, 1, n, 0));
        arguments("30 both: what", 0, 6, (s, n) -> s.both(0, 1, 0, n));
        arguments("31 house: what", 0, 6, (s, n) -> s.house(n));
    }

    private void whatWouldBe() {
        for (boolean is : new boolean[] {false, true}) {
            arguments("32 would: left, " + is, 0, 199, (s, n) -> s.would(n, 200, 5, is));
            arguments("32 would: right behind left 0, " + is, 1, 200, (s, n) -> s.would(0, n, 5, is));
            arguments("32 would: right behind left 77, " + is, 78, 200, (s, n) -> s.would(77, n, 5, is));
            arguments("32 would: right behind left 199, " + is, 200, 200, (s, n) -> s.would(199, n, 5, is));
            arguments("32 would: height, " + is, 1, 99, (s, n) -> s.would(5, 8, n, is));
            indices("34 without, " + is, 0, 2, (s, n) -> s.without(is, n));
            refused("34 without what does not stand or lie, " + is, STATE, RefusalsTest::some, s -> s.without(is, 1));
            indices("35 swept: sheet, " + is, 0, 2, (s, n) -> s.swept(n, is, 5));
            arguments("35 swept: line, " + is, 0, 29, (s, n) -> s.swept(0, is, n));
        }
        indices("33 adds: sheet", 0, 2, (s, n) -> s.adds(n, 0, 1, 0, 1));
        arguments("33 adds: left", 0, 29, (s, n) -> s.adds(0, n, 30, 4, 5));
        arguments("33 adds: right behind left 0", 1, 30, (s, n) -> s.adds(0, 0, n, 4, 5));
        arguments("33 adds: right behind left 11", 12, 30, (s, n) -> s.adds(0, 11, n, 4, 5));
        arguments("33 adds: right behind left 29", 30, 30, (s, n) -> s.adds(0, 29, n, 4, 5));
        arguments("33 adds: top", 0, 29, (s, n) -> s.adds(0, 4, 5, n, 30));
        arguments("33 adds: bottom behind top 0", 1, 30, (s, n) -> s.adds(0, 4, 5, 0, n));
        arguments("33 adds: bottom behind top 11", 12, 30, (s, n) -> s.adds(0, 4, 5, 11, n));
        arguments("33 adds: bottom behind top 29", 30, 30, (s, n) -> s.adds(0, 4, 5, 29, n));
    }

    /** A new object has no building, no rectangle and no turn, and nothing is told. */
    private void noneThere() {
        refused("3 tear in a new one", INDEX, Skylinesheet::new, s -> s.tear(0));
        refused("4 raise in a new one", INDEX, Skylinesheet::new, s -> s.raise(0, 1));
        refused("6 take in a new one", INDEX, Skylinesheet::new, s -> s.take(0));
        refused("7 shift in a new one", INDEX, Skylinesheet::new, s -> s.shift(0, 1, 1));
        refused("10 undo in a new one", STATE, Skylinesheet::new, s -> s.undo());
        refused("13 ofBuilding in a new one", INDEX, Skylinesheet::new, s -> s.ofBuilding(0, 0));
        refused("15 corner in a new one", INDEX, Skylinesheet::new, s -> s.corner(0, true));
        refused("22 ofRectangle in a new one", INDEX, Skylinesheet::new, s -> s.ofRectangle(0, 0));
        refused("34 without a building in a new one", INDEX, Skylinesheet::new, s -> s.without(true, 0));
        refused("34 without a rectangle in a new one", INDEX, Skylinesheet::new, s -> s.without(false, 0));
        House asked = () -> {
            Skylinesheet s = new Skylinesheet();
            s.build(0, 1, 1);
            s.undo();
            s.blank();
            s.knock();
            s.between(1, 0);
            return s;
        };
        refused("10 undo when nothing is told any more", STATE, asked, s -> s.undo());
        refused("3 tear what was undone", INDEX, asked, s -> s.tear(0));
    }

    private void full() {
        refused("2 build when 24 stand", STATE, RefusalsTest::crowd, s -> s.build(0, 1, 1));
        refused("5 lay when 24 lie on all sheets together", STATE, RefusalsTest::crowd, s -> s.lay(0, 0, 1, 0, 1));
        for (int sheet = 0; sheet <= 2; sheet++) {
            int on = sheet;
            House oneSheet = () -> {
                Skylinesheet s = new Skylinesheet();
                for (int n = 0; n < 24; n++) {
                    s.lay(on, n, n + 1, 0, 1);
                }
                return s;
            };
            refused("5 lay when 24 lie on the sheet " + on, STATE, oneSheet, s -> s.lay(on, 0, 1, 0, 1));
            refused("5 lay when 24 lie on another sheet", STATE, oneSheet, s -> s.lay((on + 1) % 3, 0, 1, 0, 1));
            due.is("2 build when 24 lie", oneSheet.made().build(0, 1, 1), 0);
        }
        roomAgain();
    }

    /** What stands no more and lies no more leaves its place, but not its number. */
    private void roomAgain() {
        Skylinesheet s = crowd();
        s.tear(23);
        due.is("2 build when the 24th is torn", s.build(0, 1, 1), 24);
        due.state("2 build when 24 stand again", () -> s.build(0, 1, 1));
        s.take(0);
        due.is("5 lay when the first is taken", s.lay(2, 0, 1, 0, 1), 24);
        due.state("5 lay when 24 lie again", () -> s.lay(2, 0, 1, 0, 1));
        s.wipe(0);
        for (int n = 25; n <= 31; n++) {
            due.is("5 lay when seven are wiped", s.lay(1, 0, 1, 0, 1), n);
        }
        due.state("5 lay when 24 lie once more", () -> s.lay(1, 0, 1, 0, 1));
        s.undo();
        due.is("5 lay when one is undone", s.lay(1, 0, 1, 0, 1), 31);
        Skylinesheet t = crowd();
        t.undo();
        t.undo();
        due.is("2 build when one is undone", t.build(0, 1, 1), 23);
        due.state("2 build when 24 stand after an undo", () -> t.build(0, 1, 1));
    }

    private void theFirstNamedGoesAhead() {
        House some = RefusalsTest::some;
        House crowd = RefusalsTest::crowd;
        refused("2 the left ahead of the 24", ARGUMENT, crowd, s -> s.build(-1, 5, 5));
        refused("2 the right ahead of the 24", ARGUMENT, crowd, s -> s.build(5, 5, 5));
        refused("2 the height ahead of the 24", ARGUMENT, crowd, s -> s.build(5, 6, 100));
        refused("4 the building ahead of by", INDEX, some, s -> s.raise(3, 100));
        refused("4 by ahead of what does not stand", ARGUMENT, some, s -> s.raise(1, -100));
        refused("5 the sheet ahead of the left", INDEX, some, s -> s.lay(3, -1, 5, 0, 5));
        refused("5 the sheet ahead of the bottom", INDEX, some, s -> s.lay(-1, 0, 5, 5, 5));
        refused("5 the sheet ahead of the 24", INDEX, crowd, s -> s.lay(3, 0, 5, 0, 5));
        refused("5 the sheet ahead of both", INDEX, crowd, s -> s.lay(3, 5, 5, 0, 5));
        refused("5 the left ahead of the 24", ARGUMENT, crowd, s -> s.lay(0, -1, 5, 0, 5));
        refused("5 the right ahead of the 24", ARGUMENT, crowd, s -> s.lay(0, 5, 31, 0, 5));
        refused("5 the top ahead of the 24", ARGUMENT, crowd, s -> s.lay(0, 0, 5, 30, 31));
        refused("5 the bottom ahead of the 24", ARGUMENT, crowd, s -> s.lay(0, 0, 5, 5, 5));
        refused("7 the rectangle ahead of right", INDEX, some, s -> s.shift(3, 31, 0));
        refused("7 the rectangle ahead of down", INDEX, some, s -> s.shift(-1, 0, -31));
        refused("7 right ahead of what does not lie", ARGUMENT, some, s -> s.shift(1, 31, 0));
        refused("7 down ahead of what does not lie", ARGUMENT, some, s -> s.shift(1, 0, -31));
        refused("13 the building ahead of what", INDEX, some, s -> s.ofBuilding(3, 7));
        refused("22 the rectangle ahead of what", INDEX, some, s -> s.ofRectangle(3, 8));
        refused("23 the sheet ahead of x", INDEX, some, s -> s.depth(3, 30, 0));
        refused("23 the sheet ahead of y", INDEX, some, s -> s.depth(-1, 0, -1));
        refused("24 the sheet ahead of y", INDEX, some, s -> s.row(3, 30));
        refused("25 the sheet ahead of y", INDEX, some, s -> s.inked(3, 30, 0, 1));
        refused("25 the sheet ahead of from", INDEX, some, s -> s.inked(3, 0, 31, 1));
        refused("25 the sheet ahead of to", INDEX, some, s -> s.inked(3, 0, 0, -1));
        refused("26 the sheet ahead of x", INDEX, some, s -> s.along(3, 30, 0, true));
        refused("26 the sheet ahead of y", INDEX, some, s -> s.along(3, 0, -1, false));
        refused("27 the sheet ahead of what", INDEX, some, s -> s.ofSheet(3, 12));
        refused("28 the sheet ahead of x", INDEX, some, s -> s.piece(3, 30, 0));
        refused("28 the sheet ahead of y", INDEX, some, s -> s.piece(3, 0, 30));
        refused("29 the sheet ahead of the depth", INDEX, some, s -> s.deep(3, 0));
        refused("30 the first ahead of how", INDEX, some, s -> s.both(3, 0, 4, 0));
        refused("30 the second ahead of how", INDEX, some, s -> s.both(0, 3, -1, 0));
        refused("30 the second ahead of what", INDEX, some, s -> s.both(0, -1, 0, 7));
        refused("33 the sheet ahead of the left", INDEX, some, s -> s.adds(3, 5, 5, 0, 5));
        refused("33 the sheet ahead of the top", INDEX, some, s -> s.adds(3, 0, 5, -1, 5));
        refused("35 the sheet ahead of the line", INDEX, some, s -> s.swept(3, true, 30));
    }

    private void exceptionsGoAheadOfTheNine() {
        House some = RefusalsTest::some;
        refused("19 from 201 ahead of the -9", ARGUMENT, some, s -> s.between(201, 5));
        refused("19 from MAX ahead of the -9", ARGUMENT, some, s -> s.between(MAX, 0));
        refused("19 to -1 ahead of the -9", ARGUMENT, some, s -> s.between(5, -1));
        refused("19 to MIN ahead of the -9", ARGUMENT, some, s -> s.between(200, MIN));
        refused("25 the sheet ahead of the -9", INDEX, some, s -> s.inked(3, 0, 5, 4));
        refused("25 y ahead of the -9", ARGUMENT, some, s -> s.inked(0, 30, 5, 4));
        refused("25 from 31 ahead of the -9", ARGUMENT, some, s -> s.inked(0, 0, 31, 4));
        refused("25 to -1 ahead of the -9", ARGUMENT, some, s -> s.inked(0, 0, 5, -1));
    }
}
