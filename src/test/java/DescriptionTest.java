/** The sections 1 to 4 of the document, ahead of its promises: a test for each sentence that names an end. */
public final class DescriptionTest {
    private final Due due = new Due();

    public static void main(String[] args) {
        DescriptionTest test = new DescriptionTest();
        test.numbersOfBuildings();
        test.turnsAtTheEnds();
        test.neighboursOfOneHeight();
        test.hidden();
        test.seenFromTheLeft();
        test.faceAndShade();
        test.wholeTown();
        test.numbersOfRectangles();
        test.depth();
        test.covered();
        test.edge();
        test.cornersAtEachPoint();
        test.cornersBySigns();
        test.parts();
        test.holes();
        test.strips();
        test.fourSheets();
        test.toldKinds();
        test.toldNone();
        test.notTold();
        test.undoOfEachKind();
        test.undoStepByStep();
        test.undoLeavesTheCounts();
        test.due.end();
    }

    private static Skylinesheet with(int... buildings) {
        Skylinesheet s = new Skylinesheet();
        for (int n = 0; n < buildings.length; n += 3) {
            s.build(buildings[n], buildings[n + 1], buildings[n + 2]);
        }
        return s;
    }

    /** Lays a cell on the sheet 0 for each # of the rows, the first sign of the first row at x and y. */
    private static Skylinesheet drawn(int x, int y, String... rows) {
        Skylinesheet s = new Skylinesheet();
        draw(s, 0, x, y, rows);
        return s;
    }

    /** A piece of # side by side is one rectangle. */
    private static void draw(Skylinesheet s, int sheet, int x, int y, String... rows) {
        for (int down = 0; down < rows.length; down++) {
            String row = rows[down] + ".";
            int from = -1;
            for (int right = 0; right < row.length(); right++) {
                boolean isInked = row.charAt(right) == '#';
                if (isInked && from < 0) {
                    from = right;
                }
                if (!isInked && from >= 0) {
                    s.lay(sheet, x + from, x + right, y + down, y + down + 1);
                    from = -1;
                }
            }
        }
    }

    // ---- 1. buildings and the skyline

    private void numbersOfBuildings() {
        Skylinesheet s = with(0, 200, 1, 199, 200, 99, 0, 1, 2);
        due.is("1 the smallest and the greatest numbers", s.skyline(), "0:2 1:1 199:99 200:0");
        s.tear(1);
        due.is("1 a number is not given again when one is torn", s.build(5, 6, 7), 3);
        s.tear(3);
        due.is("1 not that of the last one either", s.build(5, 6, 7), 4);
        due.is("1 left is over it", s.height(5), 7);
        due.is("1 right is not", s.height(6), 1);
        due.is("1 ahead of left is not", s.height(4), 1);
    }

    private void turnsAtTheEnds() {
        Skylinesheet s = with(0, 200, 7);
        due.is("1 the skyline is 0 at -1: a turn at 0", s.corner(0, false), 0);
        due.is("1 the skyline is 0 at 200: a turn at 200", s.corner(1, false), 200);
        due.is("1 its height there", s.corner(1, true), 0);
        due.is("1 two turns", s.town(0), 2);
        due.is("1 no turn without any", with().town(0), 0);
        due.is("1 one x alone at the end", with(199, 200, 1).skyline(), "199:1 200:0");
        due.is("1 one x alone at the start", with(0, 1, 1).skyline(), "0:1 1:0");
        due.is("1 no turn at 0", with(1, 2, 1).corner(0, false), 1);
    }

    private void neighboursOfOneHeight() {
        due.is("1 side by side as high: no turn between", with(5, 9, 4, 9, 12, 4).skyline(), "5:4 12:0");
        due.is("1 one over the other as high: no turn", with(5, 9, 4, 7, 12, 4).skyline(), "5:4 12:0");
        due.is("1 one below a higher one: no turn", with(5, 12, 4, 7, 9, 3).skyline(), "5:4 12:0");
        due.is("1 an x between: turns", with(5, 9, 4, 10, 12, 4).skyline(), "5:4 9:0 10:4 12:0");
    }

    private void hidden() {
        due.is("1 alone it is not hidden", with(5, 9, 4).ofBuilding(0, 4), 0);
        due.is("1 hidden by a higher one", with(5, 9, 4, 5, 9, 5).ofBuilding(0, 4), 1);
        due.is("1 each of two alike is hidden", with(5, 9, 4, 5, 9, 4).town(6), 2);
        due.is("1 seen at its first x alone", with(5, 9, 4, 6, 9, 5).ofBuilding(0, 4), 0);
        due.is("1 seen at its last x alone", with(5, 9, 4, 5, 8, 5).ofBuilding(0, 4), 0);
        due.is("1 seen in the middle alone", with(5, 9, 4, 5, 7, 5, 8, 9, 5).ofBuilding(0, 4), 0);
        due.is("1 hidden by two, a higher one and one as high", with(5, 9, 4, 5, 7, 9, 7, 9, 4).ofBuilding(0, 4), 1);
        due.is("1 not hidden by lower ones", with(5, 9, 4, 0, 200, 3).ofBuilding(0, 4), 0);
        Skylinesheet s = with(5, 9, 4, 5, 9, 4);
        s.tear(0);
        due.is("1 what is torn hides none", s.ofBuilding(1, 4), 0);
        due.is("1 what is torn is not hidden", s.ofBuilding(0, 4), 0);
    }

    private void seenFromTheLeft() {
        due.is("1 alone it is seen", with(5, 9, 4).ofBuilding(0, 5), 1);
        due.is("1 a smaller left, lower", with(5, 9, 4, 4, 5, 3).ofBuilding(0, 5), 1);
        due.is("1 a smaller left, as high", with(5, 9, 4, 4, 5, 4).ofBuilding(0, 5), 0);
        due.is("1 a smaller left, higher", with(5, 9, 4, 4, 5, 5).ofBuilding(0, 5), 0);
        due.is("1 a smaller left, as high, a greater number or not", with(4, 5, 4, 5, 9, 4).ofBuilding(1, 5), 0);
        due.is("1 the same left, lower", with(5, 9, 4, 5, 6, 3).ofBuilding(0, 5), 1);
        due.is("1 the same left, lower, a smaller number", with(5, 6, 3, 5, 9, 4).ofBuilding(1, 5), 1);
        due.is("1 the same left, as high, a greater number", with(5, 9, 4, 5, 6, 4).ofBuilding(0, 5), 1);
        due.is("1 the same left, as high, a smaller number", with(5, 9, 4, 5, 6, 4).ofBuilding(1, 5), 0);
        due.is("1 the same left, higher, a greater number", with(5, 9, 4, 5, 6, 5).ofBuilding(0, 5), 0);
        due.is("1 a greater left, higher", with(5, 9, 4, 6, 9, 99).ofBuilding(0, 5), 1);
        due.is("1 a greater left, as high, a smaller number", with(6, 9, 4, 5, 9, 4).ofBuilding(1, 5), 1);
        Skylinesheet s = with(4, 5, 9, 5, 9, 4);
        s.tear(0);
        due.is("1 what is torn is in no one's way", s.ofBuilding(1, 5), 1);
        due.is("1 what is torn is not seen", s.ofBuilding(0, 5), 0);
    }

    private void faceAndShade() {
        due.is("1 the face without any", with().town(2), 0);
        due.is("1 the face from end to end", with(0, 200, 99).town(2), 198);
        due.is("1 the face up and down, without a sign", with(0, 10, 9, 3, 5, 20, 10, 12, 4).town(2),
            9 + 11 + 11 + 5 + 4);
        due.is("1 the shade without any", with().town(1), 0);
        due.is("1 the shade at its greatest", with(0, 200, 99).town(1), 19800);
        due.is("1 what stands behind adds no shade", with(0, 10, 9, 3, 5, 20, 4, 9, 8).town(1), 8 * 9 + 2 * 20);
    }

    /** 24 buildings apart from one another: as many turns as there may be. */
    private void wholeTown() {
        Skylinesheet s = new Skylinesheet();
        StringBuilder want = new StringBuilder();
        for (int n = 0; n < 24; n++) {
            s.build(8 * n + 1, 8 * n + 3, n + 76);
            want.append(n == 0 ? "" : " ").append(8 * n + 1).append(':').append(n + 76)
                .append(' ').append(8 * n + 3).append(":0");
        }
        due.is("1 48 turns", s.skyline(), want.toString());
        due.is("1 how many", s.town(0), 48);
        due.is("1 the last one", s.corner(47, false), 187);
        due.index("1 no 49th", () -> s.corner(48, false));
        due.is("1 all seen from the left, each the higher one", s.town(7), 24);
        due.is("1 none hidden", s.town(6), 0);
    }

    // ---- 2. sheets and rectangles

    private void numbersOfRectangles() {
        Skylinesheet s = new Skylinesheet();
        due.is("2 the first, on any sheet", s.lay(2, 29, 30, 29, 30), 0);
        due.is("2 they are numbered on all sheets together", s.lay(0, 0, 1, 0, 1), 1);
        s.take(1);
        due.is("2 a number is not given again when one is taken", s.lay(0, 0, 1, 0, 1), 2);
        s.wipe(0);
        due.is("2 not when all are wiped either", s.lay(0, 4, 6, 7, 9), 3);
        due.is("2 ahead of left", s.depth(0, 3, 7), 0);
        due.is("2 left and top are of it", s.depth(0, 4, 7), 1);
        due.is("2 ahead of top", s.depth(0, 4, 6), 0);
        due.is("2 the last cell", s.depth(0, 5, 8), 1);
        due.is("2 right is not of it", s.depth(0, 6, 8), 0);
        due.is("2 bottom is not of it", s.depth(0, 5, 9), 0);
        due.is("2 the last cell of the sheet", s.depth(2, 29, 29), 1);
    }

    private void depth() {
        Skylinesheet s = new Skylinesheet();
        for (int n = 0; n < 24; n++) {
            s.lay(1, 10, 20, 10, 20);
        }
        due.is("2 24 over one another", s.depth(1, 15, 15), 24);
        due.is("2 their area is that of one", s.ofSheet(1, 0), 100);
        s.take(0);
        due.is("2 one less", s.depth(1, 15, 15), 23);
        s.lay(0, 10, 20, 10, 20);
        due.is("2 one of another sheet is not counted", s.depth(1, 15, 15), 23);
    }

    private void covered() {
        Skylinesheet s = new Skylinesheet();
        s.lay(0, 5, 9, 5, 9);
        due.is("2 alone it is not covered", s.ofRectangle(0, 6), 0);
        s.lay(1, 5, 9, 5, 9);
        due.is("2 nor by one of another sheet", s.ofRectangle(0, 6), 0);
        s.lay(0, 0, 30, 5, 8);
        s.lay(0, 5, 8, 8, 9);
        due.is("2 nor with a cell of its own", s.ofRectangle(0, 6), 0);
        s.lay(0, 8, 9, 8, 30);
        due.is("2 each cell by itself, by three others", s.ofRectangle(0, 6), 1);
        s.take(2);
        due.is("2 what is taken covers none", s.ofRectangle(0, 6), 0);
        due.is("2 what is taken is not covered", s.ofRectangle(2, 6), 0);
        s.lay(0, 5, 9, 5, 9);
        due.is("2 each of two alike is covered", s.ofRectangle(0, 6) + s.ofRectangle(5, 6), 2);
    }

    // ---- 3. what a sheet is

    private void edge() {
        due.is("3 one cell amid the sheet", drawn(9, 9, "#").ofSheet(0, 1), 4);
        due.is("3 one in the first corner", drawn(0, 0, "#").ofSheet(0, 1), 4);
        due.is("3 one in the last corner", drawn(29, 29, "#").ofSheet(0, 1), 4);
        due.is("3 one at the right end of the first row", drawn(29, 0, "#").ofSheet(0, 1), 4);
        due.is("3 a row from end to end", drawn(0, 9, "#".repeat(30)).ofSheet(0, 1), 62);
        due.is("3 around a hole, too", drawn(9, 9, "###", "#.#", "###").ofSheet(0, 1), 16);
        due.is("3 two cells at a corner", drawn(9, 9, "#.", ".#").ofSheet(0, 1), 8);
        due.is("3 two cells at a side", drawn(9, 9, "##").ofSheet(0, 1), 6);
    }

    /** A point may be at 0 and at 30, with cells beyond the sheet. */
    private void cornersAtEachPoint() {
        int[] places = {0, 1, 14, 28};
        for (int x : places) {
            for (int y : places) {
                String place = " at " + x + " " + y;
                due.is("3 convex corners of two by two" + place, drawn(x, y, "##", "##").ofSheet(0, 2), 4);
                due.is("3 concave corners of two by two" + place, drawn(x, y, "##", "##").ofSheet(0, 3), 0);
                due.is("3 convex corners of three" + place, drawn(x, y, "##", "#.").ofSheet(0, 2), 5);
                due.is("3 concave corners of three" + place, drawn(x, y, "##", "#.").ofSheet(0, 3), 1);
                due.is("3 convex corners of two across" + place, drawn(x, y, ".#", "#.").ofSheet(0, 2), 8);
                due.is("3 concave corners of two across" + place, drawn(x, y, ".#", "#.").ofSheet(0, 3), 0);
                due.is("3 one part of three" + place, drawn(x, y, "##", "#.").ofSheet(0, 4), 1);
                due.is("3 two parts across" + place, drawn(x, y, ".#", "#.").ofSheet(0, 4), 2);
                due.is("3 no hole" + place, drawn(x, y, ".#", "#.").ofSheet(0, 5), 0);
            }
        }
    }

    /** All ways in which the four cells of one point may be inked, and what that point counts. */
    private void cornersBySigns() {
        String[][] signs = {{"..", ".."}, {"#.", ".."}, {".#", ".."}, {"##", ".."}, {"..", "#."}, {"#.", "#."},
            {".#", "#."}, {"##", "#."}, {"..", ".#"}, {"#.", ".#"}, {".#", ".#"}, {"##", ".#"}, {"..", "##"},
            {"#.", "##"}, {".#", "##"}, {"##", "##"}};
        int[] convex = {0, 4, 4, 4, 4, 4, 8, 5, 4, 8, 4, 5, 4, 5, 5, 4};
        int[] concave = {0, 0, 0, 0, 0, 0, 0, 1, 0, 0, 0, 1, 0, 1, 1, 0};
        for (int n = 0; n < signs.length; n++) {
            Skylinesheet s = drawn(12, 17, signs[n]);
            due.is("3 convex corners of " + String.join("/", signs[n]), s.ofSheet(0, 2), convex[n]);
            due.is("3 concave corners of " + String.join("/", signs[n]), s.ofSheet(0, 3), concave[n]);
        }
        Skylinesheet hole = drawn(12, 17, "###", "#.#", "###");
        due.is("3 a hole has concave corners alone", hole.ofSheet(0, 3), 4);
        due.is("3 and adds no convex one", hole.ofSheet(0, 2), 4);
    }

    private void parts() {
        due.is("3 no part", new Skylinesheet().ofSheet(0, 4), 0);
        due.is("3 a side in common, left and right", drawn(9, 9, "##").ofSheet(0, 4), 1);
        due.is("3 a side in common, up and down", drawn(9, 9, "#", "#").ofSheet(0, 4), 1);
        due.is("3 a corner in common is not enough", drawn(9, 9, "#.", ".#").ofSheet(0, 4), 2);
        due.is("3 nor is the other corner", drawn(9, 9, ".#", "#.").ofSheet(0, 4), 2);
        due.is("3 the ends of rows are not neighbours", drawn(0, 9, "#" + ".".repeat(28) + "#").ofSheet(0, 4), 2);
        String right = ".".repeat(29) + "#";
        due.is("3 nor is the end of a row one of the next row's start", drawn(0, 9, right, "#").ofSheet(0, 4), 2);
        due.is("3 first and last row are not neighbours", columns(0, 29).ofSheet(0, 4), 2);
        Skylinesheet snake = drawn(0, 0, "#########", "........#", "#######.#", "#.....#.#", "#.###.#.#", "#.#...#.#",
            "#.#####.#", "#.......#", "#########");
        due.is("3 and so on, through many turns", snake.ofSheet(0, 4), 1);
        due.is("3 all cells of it", snake.piece(0, 4, 4), snake.ofSheet(0, 0));
        due.is("3 no hole within", snake.ofSheet(0, 5), 0);
        due.is("3 the gap is one", snake.piece(0, 5, 4), 900 - snake.ofSheet(0, 0));
    }

    /** Cells in two rows of the column 9. */
    private static Skylinesheet columns(int one, int other) {
        Skylinesheet s = new Skylinesheet();
        s.lay(0, 9, 10, one, one + 1);
        s.lay(0, 9, 10, other, other + 1);
        return s;
    }

    private void holes() {
        due.is("3 an empty sheet has no hole", new Skylinesheet().ofSheet(0, 5), 0);
        due.is("3 one cell is one", drawn(9, 9, "###", "#.#", "###").ofSheet(0, 5), 1);
        due.is("3 a bare corner opens it", drawn(9, 9, "##.", "#.#", "###").ofSheet(0, 5), 0);
        due.is("3 without all four corners it is open", drawn(9, 9, ".#.", "#.#", ".#.").ofSheet(0, 5), 0);
        due.is("3 two at a side are one", drawn(9, 9, "####", "#..#", "####").ofSheet(0, 5), 1);
        due.is("3 two at a corner are one", drawn(9, 9, "####", "#.##", "##.#", "####").ofSheet(0, 5), 1);
        due.is("3 two at the other corner are one", drawn(9, 9, "####", "##.#", "#.##", "####").ofSheet(0, 5), 1);
        due.is("3 its cells", drawn(9, 9, "####", "##.#", "#.##", "####").piece(0, 11, 10), 2);
        due.is("3 two apart are two", drawn(9, 9, "#####", "#.#.#", "#####").ofSheet(0, 5), 2);
        due.is("3 open at the first column: none", drawn(0, 9, "##", ".#", "##").ofSheet(0, 5), 0);
        due.is("3 open at the first row: none", drawn(9, 0, "#.#", "###").ofSheet(0, 5), 0);
        due.is("3 open at the last column: none", drawn(28, 9, "##", "#.", "##").ofSheet(0, 5), 0);
        due.is("3 open at the last row: none", drawn(9, 28, "###", "#.#").ofSheet(0, 5), 0);
        due.is("3 at the corner of the sheet: none", drawn(0, 0, ".#", "##").ofSheet(0, 5), 0);
        due.is("3 next to the corner: one", drawn(0, 0, "###", "#.#", "###").ofSheet(0, 5), 1);
        due.is("3 next to the last corner: one", drawn(27, 27, "###", "#.#", "###").ofSheet(0, 5), 1);
        due.is("3 a hole within a part within a hole",
            drawn(9, 9, "#######", "#.....#", "#.###.#", "#.#.#.#", "#.###.#", "#.....#", "#######").ofSheet(0, 5), 2);
        Skylinesheet frame = drawn(0, 0, "#".repeat(30));
        draw(frame, 0, 0, 29, "#".repeat(30));
        frame.lay(0, 0, 1, 0, 30);
        frame.lay(0, 29, 30, 0, 30);
        due.is("3 the widest hole", frame.piece(0, 14, 14), 784);
        due.is("3 it is one", frame.ofSheet(0, 5), 1);
        due.is("3 a full sheet has none", full().ofSheet(0, 5), 0);
    }

    private static Skylinesheet full() {
        Skylinesheet s = new Skylinesheet();
        s.lay(0, 0, 30, 0, 30);
        return s;
    }

    private void strips() {
        due.is("3 an empty sheet has no strip", new Skylinesheet().ofSheet(0, 6), 0);
        due.is("3 a full one has one", full().ofSheet(0, 6), 1);
        due.is("3 the same first and last x: one", drawn(9, 9, "###", "###").ofSheet(0, 6), 1);
        due.is("3 another first x: two", drawn(9, 9, "###", ".##").ofSheet(0, 6), 2);
        due.is("3 another last x: two", drawn(9, 9, "###", "##.").ofSheet(0, 6), 2);
        due.is("3 longer below: two", drawn(9, 9, ".##", "###").ofSheet(0, 6), 2);
        due.is("3 a row between: not one behind the other", drawn(9, 9, "###", "...", "###").ofSheet(0, 6), 2);
        due.is("3 another run between", drawn(9, 9, "###", "##.", "###").ofSheet(0, 6), 3);
        due.is("3 two runs in a row", drawn(9, 9, "#.##").ofSheet(0, 6), 2);
        due.is("3 one of two runs goes on", drawn(9, 9, "#.##", "#.#.").ofSheet(0, 6), 3);
        due.is("3 both go on", drawn(9, 9, "#.##", "#.##").ofSheet(0, 6), 2);
        due.is("3 two runs below one", drawn(9, 9, "####", "#.##").ofSheet(0, 6), 3);
        due.is("3 across a corner", drawn(9, 9, "#.", ".#").ofSheet(0, 6), 2);
        due.is("3 fifteen runs in the last row", drawn(0, 29, "#.".repeat(15)).ofSheet(0, 6), 15);
        due.is("3 at the end of the first row", drawn(28, 0, "##").ofSheet(0, 6), 1);
        due.is("3 at both ends of a row", drawn(0, 4, "#" + ".".repeat(28) + "#").ofSheet(0, 6), 2);
    }

    private void fourSheets() {
        Skylinesheet s = new Skylinesheet();
        draw(s, 0, 0, 0, "##", "..");
        draw(s, 1, 0, 0, "#.", "#.");
        int[] same = {2, 2, 0, 0};
        for (int how = 0; how <= 3; how++) {
            due.is("3 one and the same, " + how, s.both(0, 0, how, 0), same[how]);
            due.is("3 the first with an empty one, " + how, s.both(0, 2, how, 0), how == 1 ? 0 : 2);
            due.is("3 an empty one with the second, " + how, s.both(2, 1, how, 0), how == 0 || how == 3 ? 2 : 0);
            due.is("3 two empty ones, " + how, s.both(2, 2, how, 0), 0);
        }
        due.is("3 two sheets, join", s.both(0, 1, 0, 0), 3);
        due.is("3 two sheets, meet", s.both(0, 1, 1, 0), 1);
        due.is("3 two sheets, less", s.both(0, 1, 2, 0), 1);
        due.is("3 two sheets, apart", s.both(0, 1, 3, 0), 2);
        due.is("3 apart has two cells at a corner", s.both(0, 1, 3, 2), 8);
        due.is("3 of two parts", s.both(0, 1, 3, 4), 2);
        due.is("3 join has one concave corner", s.both(0, 1, 0, 3), 1);
        due.is("3 what is thought of changes nothing", s.row(0, 0) + s.row(0, 1), "##" + ".".repeat(58));
    }

    // ---- 4. what was told

    private void toldKinds() {
        Skylinesheet s = new Skylinesheet();
        s.build(0, 9, 9);
        due.is("4 build() is told", s.house(3), 1);
        s.raise(0, 1);
        due.is("4 raise() is told", s.house(3), 2);
        s.tear(0);
        due.is("4 tear() is told", s.house(3), 3);
        s.lay(0, 0, 9, 0, 9);
        due.is("4 lay() is told", s.house(3), 4);
        s.shift(0, 1, 1);
        due.is("4 shift() is told", s.house(3), 5);
        s.take(0);
        due.is("4 take() is told", s.house(3), 6);
        s.turn(0);
        due.is("4 turn() is told, though nothing lies", s.house(3), 7);
        s.wipe(0);
        due.is("4 wipe() is told, though nothing lies", s.house(3), 8);
        due.is("4 undo() is not told, but takes one off", s.undo(), 7);
        due.is("4 that one is off the row", s.house(3), 7);
    }

    private void toldNone() {
        Skylinesheet s = with(0, 9, 99);
        s.lay(0, 0, 30, 0, 30);
        due.is("4 raise() by NONE", s.raise(0, 1), -1);
        due.is("4 it is told", s.house(3), 3);
        due.is("4 raise() by 0 changes nothing", s.raise(0, 0), 99);
        due.is("4 it is told, too", s.house(3), 4);
        due.is("4 shift() by NONE", s.shift(0, 1, 0), -1);
        due.is("4 it is told, too", s.house(3), 5);
        due.is("4 shift() by 0 changes nothing", s.shift(0, 0, 0), 900);
        due.is("4 it is told, too", s.house(3), 6);
        String before = s.skyline();
        for (int told = 5; told >= 2; told--) {
            due.is("4 undo of what changed nothing", s.undo(), told);
            due.is("4 changes nothing", s.skyline(), before);
            due.is("4 nor on the sheet", s.ofSheet(0, 0), 900);
        }
        due.is("4 then the rectangle is undone", s.undo(), 1);
        due.is("4 it is gone", s.house(1), 0);
    }

    private void notTold() {
        Skylinesheet s = with(0, 9, 9);
        s.lay(0, 0, 9, 0, 9);
        s.blank();
        s.knock();
        s.between(5, 4);
        s.inked(0, 0, 5, 4);
        s.would(0, 5, 5, true);
        s.adds(0, 0, 5, 0, 5);
        s.without(true, 0);
        s.without(false, 0);
        s.both(0, 1, 0, 0);
        s.isSound();
        s.digest();
        due.is("4 what only asks is not told", s.house(3), 2);
        s.take(0);
        due.state("4 to take it twice throws", () -> s.take(0));
        due.is("4 what throws is not told", s.house(3), 3);
    }

    private void undoOfEachKind() {
        Skylinesheet s = with(0, 9, 9, 5, 20, 5);
        s.lay(0, 0, 5, 0, 9);
        s.lay(0, 3, 8, 3, 8);
        s.lay(1, 3, 8, 3, 8);
        String before = Whole.of(s);
        s.build(7, 9, 70);
        undone("build", s, before);
        s.tear(0);
        undone("tear", s, before);
        s.raise(1, 90);
        undone("raise", s, before);
        s.lay(0, 20, 25, 20, 25);
        undone("lay", s, before);
        s.take(1);
        undone("take", s, before);
        s.shift(0, 20, 20);
        undone("shift", s, before);
        s.turn(0);
        undone("turn", s, before);
        s.wipe(0);
        undone("wipe", s, before);
        due.is("4 a number that was undone is given again", s.build(0, 1, 1), 2);
        due.is("4 that of a rectangle, too", s.lay(2, 0, 1, 0, 1), 3);
    }

    private void undone(String kind, Skylinesheet s, String before) {
        due.is("4 undo of " + kind + "()", s.undo(), 5);
        due.is("4 the house after undo of " + kind + "()", Whole.of(s), before);
    }

    /** Each step back is the house in which all but the last ones were called. */
    private void undoStepByStep() {
        Skylinesheet s = new Skylinesheet();
        String[] texts = new String[13];
        for (int told = 0; told <= 12; told++) {
            texts[told] = Whole.of(s);
            step(s, told);
        }
        for (int told = 12; told >= 0; told--) {
            due.is("4 undo down to " + told, s.undo(), told);
            due.is("4 the house of " + told, Whole.of(s), texts[told]);
        }
        due.state("4 no further", s::undo);
        due.is("4 a new house again", Whole.of(s), Whole.of(new Skylinesheet()));
    }

    private static void step(Skylinesheet s, int nth) {
        switch (nth) {
            case 0: s.build(3, 30, 40); break;
            case 1: s.lay(1, 2, 9, 3, 7); break;
            case 2: s.raise(0, -39); break;
            case 3: s.turn(1); break;
            case 4: s.raise(0, -1); break;
            case 5: s.shift(0, 21, 20); break;
            case 6: s.build(20, 40, 41); break;
            case 7: s.tear(0); break;
            case 8: s.shift(0, 30, 0); break;
            case 9: s.lay(1, 0, 1, 0, 1); break;
            case 10: s.take(0); break;
            case 11: s.turn(1); break;
            default: s.wipe(1); break;
        }
    }

    private void undoLeavesTheCounts() {
        Skylinesheet s = with(0, 9, 9);
        s.blank();
        s.between(9, 8);
        s.inked(2, 0, 30, 0);
        s.knock();
        s.undo();
        due.is("4 how often -9 was told stays", s.house(4), 3);
        due.is("4 the knocks stay", s.house(5), 1);
        due.is("4 and are counted on", s.knock(), 2);
        due.is("4 the buildings do not stay", s.house(0), 0);
    }
}
