import java.util.ArrayDeque;
import java.util.ArrayList;
import java.util.HashSet;
import java.util.List;
import java.util.Set;

/**
 * The document said again in the slowest and most literal way, cell by cell and x by x:
 * what the class answers is held against this.
 */
final class PlainSkylinesheet {
    private static final class Building {
        int left;
        int right;
        int height;
        boolean stands = true;
    }

    private static final class Rectangle {
        int sheet;
        int left;
        int right;
        int top;
        int bottom;
        boolean lies = true;

        boolean has(int x, int y) {
            return x >= left && x < right && y >= top && y < bottom;
        }
    }

    private List<Building> buildings = new ArrayList<>();
    private List<Rectangle> rectangles = new ArrayList<>();
    private List<int[]> told = new ArrayList<>();
    private int nines;
    private int knocks;

    private static void index(boolean isThere) {
        if (!isThere) {
            throw new IndexOutOfBoundsException();
        }
    }

    private static void argument(int number, long first, long last) {
        if (number < first || number > last) {
            throw new IllegalArgumentException();
        }
    }

    private static void state(boolean isRight) {
        if (!isRight) {
            throw new IllegalStateException();
        }
    }

    private void sheetIndex(int sheet) {
        index(sheet >= 0 && sheet <= 2);
    }

    private Building building(int n) {
        index(n >= 0 && n < buildings.size());
        return buildings.get(n);
    }

    private Rectangle rectangle(int n) {
        index(n >= 0 && n < rectangles.size());
        return rectangles.get(n);
    }

    // ---- told calls

    int build(int left, int right, int height) {
        argument(left, 0, 199);
        argument(right, left + 1, 200);
        argument(height, 1, 99);
        state(buildings.stream().filter(b -> b.stands).count() < 24);
        Building b = new Building();
        b.left = left;
        b.right = right;
        b.height = height;
        buildings.add(b);
        told.add(new int[] {0, left, right, height});
        return buildings.size() - 1;
    }

    int tear(int n) {
        Building b = building(n);
        state(b.stands);
        int before = shade(skylineBut(null));
        b.stands = false;
        told.add(new int[] {1, n});
        return before - shade(skylineBut(null));
    }

    int raise(int n, int by) {
        Building b = building(n);
        argument(by, -99, 99);
        state(b.stands);
        told.add(new int[] {2, n, by});
        if (b.height + by < 1 || b.height + by > 99) {
            return -1;
        }
        b.height += by;
        return b.height;
    }

    int lay(int sheet, int left, int right, int top, int bottom) {
        sheetIndex(sheet);
        argument(left, 0, 29);
        argument(right, left + 1, 30);
        argument(top, 0, 29);
        argument(bottom, top + 1, 30);
        state(rectangles.stream().filter(r -> r.lies).count() < 24);
        rectangles.add(made(sheet, left, right, top, bottom));
        told.add(new int[] {3, sheet, left, right, top, bottom});
        return rectangles.size() - 1;
    }

    private static Rectangle made(int sheet, int left, int right, int top, int bottom) {
        Rectangle r = new Rectangle();
        r.sheet = sheet;
        r.left = left;
        r.right = right;
        r.top = top;
        r.bottom = bottom;
        return r;
    }

    int take(int n) {
        Rectangle r = rectangle(n);
        state(r.lies);
        int before = area(ink(r.sheet, null));
        r.lies = false;
        told.add(new int[] {4, n});
        return before - area(ink(r.sheet, null));
    }

    int shift(int n, int right, int down) {
        Rectangle r = rectangle(n);
        argument(right, -30, 30);
        argument(down, -30, 30);
        state(r.lies);
        told.add(new int[] {5, n, right, down});
        Rectangle there = made(r.sheet, r.left + right, r.right + right, r.top + down, r.bottom + down);
        if (there.left < 0 || there.top < 0 || there.right > 30 || there.bottom > 30) {
            return -1;
        }
        rectangles.set(n, there);
        return area(ink(r.sheet, null));
    }

    int turn(int sheet) {
        sheetIndex(sheet);
        told.add(new int[] {6, sheet});
        int count = 0;
        for (int n = 0; n < rectangles.size(); n++) {
            Rectangle r = rectangles.get(n);
            if (r.lies && r.sheet == sheet) {
                rectangles.set(n, made(sheet, r.top, r.bottom, r.left, r.right));
                count++;
            }
        }
        return count;
    }

    int wipe(int sheet) {
        sheetIndex(sheet);
        told.add(new int[] {7, sheet});
        int before = area(ink(sheet, null));
        for (Rectangle r : rectangles) {
            if (r.sheet == sheet) {
                r.lies = false;
            }
        }
        return before;
    }

    int undo() {
        state(!told.isEmpty());
        PlainSkylinesheet fresh = new PlainSkylinesheet();
        for (int[] call : told.subList(0, told.size() - 1)) {
            fresh.call(call);
        }
        buildings = fresh.buildings;
        rectangles = fresh.rectangles;
        told = fresh.told;
        return told.size();
    }

    private int call(int[] c) {
        switch (c[0]) {
            case 0: return build(c[1], c[2], c[3]);
            case 1: return tear(c[1]);
            case 2: return raise(c[1], c[2]);
            case 3: return lay(c[1], c[2], c[3], c[4], c[5]);
            case 4: return take(c[1]);
            case 5: return shift(c[1], c[2], c[3]);
            case 6: return turn(c[1]);
            default: return wipe(c[1]);
        }
    }

    int blank() {
        nines++;
        return -9;
    }

    int knock() {
        return ++knocks;
    }

    // ---- the skyline

    /** The skyline from x -1 (at the place 0) to 201. */
    private int[] skylineBut(Building but) {
        int[] heights = new int[203];
        for (int x = -1; x <= 201; x++) {
            for (Building b : buildings) {
                if (b != but && b.stands && x >= b.left && x < b.right && b.height > heights[x + 1]) {
                    heights[x + 1] = b.height;
                }
            }
        }
        return heights;
    }

    private static int shade(int[] heights) {
        int sum = 0;
        for (int tall : heights) {
            sum += tall;
        }
        return sum;
    }

    private static List<int[]> turns(int[] heights) {
        List<int[]> turns = new ArrayList<>();
        for (int x = 0; x <= 200; x++) {
            if (heights[x + 1] != heights[x]) {
                turns.add(new int[] {x, heights[x + 1]});
            }
        }
        return turns;
    }

    private boolean isHidden(Building b) {
        return b.stands && java.util.Arrays.equals(skylineBut(b), skylineBut(null));
    }

    private boolean isSeenFromLeft(Building b) {
        if (!b.stands) {
            return false;
        }
        for (Building o : buildings) {
            if (o == b || !o.stands) {
                continue;
            }
            if (o.left < b.left && !(o.height < b.height)) {
                return false;
            }
            boolean isLater = buildings.indexOf(o) > buildings.indexOf(b);
            if (o.left == b.left && !(o.height < b.height || o.height == b.height && isLater)) {
                return false;
            }
        }
        return true;
    }

    int ofBuilding(int n, int what) {
        Building b = building(n);
        argument(what, 0, 6);
        int[] heights = skylineBut(null);
        int onTop = 0;
        for (int x = b.left; x < b.right; x++) {
            if (b.stands && heights[x + 1] == b.height) {
                onTop++;
            }
        }
        return new int[] {b.left, b.right, b.height, b.stands ? 1 : 0, isHidden(b) ? 1 : 0,
            isSeenFromLeft(b) ? 1 : 0, onTop}[what];
    }

    int height(int x) {
        argument(x, 0, 200);
        return skylineBut(null)[x + 1];
    }

    int corner(int nth, boolean isHeight) {
        List<int[]> turns = turns(skylineBut(null));
        index(nth >= 0 && nth < turns.size());
        return turns.get(nth)[isHeight ? 1 : 0];
    }

    String skyline() {
        String text = "";
        for (int[] turn : turns(skylineBut(null))) {
            text += (text.isEmpty() ? "" : " ") + turn[0] + ":" + turn[1];
        }
        return text.isEmpty() ? "-" : text;
    }

    int ladder(int height) {
        argument(height, 1, 99);
        int count = 0;
        for (int tall : skylineBut(null)) {
            count += tall >= height ? 1 : 0;
        }
        return count;
    }

    int half(int rest, int x) {
        argument(rest, 0, 1);
        argument(x, 0, 200);
        int tall = 0;
        for (int n = 0; n < buildings.size(); n++) {
            Building b = buildings.get(n);
            if (n % 2 == rest && b.stands && x >= b.left && x < b.right) {
                tall = Math.max(tall, b.height);
            }
        }
        return tall;
    }

    int between(int from, int to) {
        argument(from, 0, 200);
        argument(to, 0, 200);
        if (from > to) {
            return blank();
        }
        return (int) turns(skylineBut(null)).stream().filter(t -> t[0] >= from && t[0] <= to).count();
    }

    int look(int x, int height, boolean isLeft) {
        argument(x, 0, 200);
        argument(height, 1, 99);
        int[] heights = skylineBut(null);
        int best = -1;
        for (int there = 0; there <= 200; there++) {
            if (heights[there + 1] >= height) {
                if (isLeft && there < x) {
                    best = there;
                }
                if (!isLeft && there > x && best == -1) {
                    best = there;
                }
            }
        }
        return best;
    }

    int town(int what) {
        argument(what, 0, 8);
        int[] heights = skylineBut(null);
        int face = 0;
        int last = 0;
        for (int[] turn : turns(heights)) {
            face += Math.abs(turn[1] - last);
            last = turn[1];
        }
        int peak = 0;
        int first = -1;
        int widest = 0;
        for (int x = 0; x <= 200; x++) {
            if (heights[x + 1] > peak) {
                peak = heights[x + 1];
                first = x;
            }
            int to = x;
            while (to <= 200 && heights[to + 1] == heights[x + 1]) {
                to++;
            }
            if (heights[x + 1] != 0) {
                widest = Math.max(widest, to - x);
            }
        }
        int standing = 0;
        int hidden = 0;
        int seen = 0;
        for (Building b : buildings) {
            standing += b.stands ? 1 : 0;
            hidden += isHidden(b) ? 1 : 0;
            seen += isSeenFromLeft(b) ? 1 : 0;
        }
        return new int[] {turns(heights).size(), shade(heights), face, peak, first, standing, hidden, seen,
            widest}[what];
    }

    // ---- the sheets

    private interface Cells {
        boolean has(int x, int y);
    }

    private Cells ink(int sheet, Rectangle but) {
        boolean[][] cells = new boolean[30][30];
        for (int y = 0; y < 30; y++) {
            for (int x = 0; x < 30; x++) {
                cells[y][x] = depthBut(sheet, x, y, but) > 0;
            }
        }
        return (x, y) -> x >= 0 && x < 30 && y >= 0 && y < 30 && cells[y][x];
    }

    private int depthBut(int sheet, int x, int y, Rectangle but) {
        int depth = 0;
        for (Rectangle r : rectangles) {
            if (r != but && r.lies && r.sheet == sheet && r.has(x, y)) {
                depth++;
            }
        }
        return depth;
    }

    private static int area(Cells cells) {
        int area = 0;
        for (int y = 0; y < 30; y++) {
            for (int x = 0; x < 30; x++) {
                area += cells.has(x, y) ? 1 : 0;
            }
        }
        return area;
    }

    private static int edge(Cells cells) {
        int edge = 0;
        for (int y = 0; y < 30; y++) {
            for (int x = 0; x < 30; x++) {
                if (cells.has(x, y)) {
                    edge += (cells.has(x - 1, y) ? 0 : 1) + (cells.has(x + 1, y) ? 0 : 1)
                        + (cells.has(x, y - 1) ? 0 : 1) + (cells.has(x, y + 1) ? 0 : 1);
                }
            }
        }
        return edge;
    }

    private static int corners(Cells cells, boolean isConvex) {
        int count = 0;
        for (int y = 0; y <= 30; y++) {
            for (int x = 0; x <= 30; x++) {
                boolean a = cells.has(x - 1, y - 1);
                boolean b = cells.has(x, y - 1);
                boolean c = cells.has(x - 1, y);
                boolean d = cells.has(x, y);
                int inked = (a ? 1 : 0) + (b ? 1 : 0) + (c ? 1 : 0) + (d ? 1 : 0);
                if (isConvex) {
                    count += inked == 1 ? 1 : inked == 2 && a == d ? 2 : 0;
                } else {
                    count += inked == 3 ? 1 : 0;
                }
            }
        }
        return count;
    }

    /** The cells (from -1 to 30) that hang together with one cell, each as x * 100 + y. */
    private static Set<Integer> together(Cells cells, int x, int y) {
        boolean isInked = cells.has(x, y);
        Set<Integer> found = new HashSet<>();
        ArrayDeque<int[]> open = new ArrayDeque<>();
        open.add(new int[] {x, y});
        found.add(x * 100 + y);
        while (!open.isEmpty()) {
            int[] cell = open.remove();
            for (int dx = -1; dx <= 1; dx++) {
                for (int dy = -1; dy <= 1; dy++) {
                    int nx = cell[0] + dx;
                    int ny = cell[1] + dy;
                    boolean isNear = isInked ? Math.abs(dx) + Math.abs(dy) == 1 : true;
                    boolean isKnown = nx >= -1 && nx <= 30 && ny >= -1 && ny <= 30;
                    if (isNear && isKnown && cells.has(nx, ny) == isInked && found.add(nx * 100 + ny)) {
                        open.add(new int[] {nx, ny});
                    }
                }
            }
        }
        return found;
    }

    private static int parts(Cells cells) {
        Set<Integer> known = new HashSet<>();
        int count = 0;
        for (int y = 0; y < 30; y++) {
            for (int x = 0; x < 30; x++) {
                if (cells.has(x, y) && !known.contains(x * 100 + y)) {
                    known.addAll(together(cells, x, y));
                    count++;
                }
            }
        }
        return count;
    }

    private static int holes(Cells cells) {
        Set<Integer> known = new HashSet<>();
        int count = 0;
        for (int y = 0; y < 30; y++) {
            for (int x = 0; x < 30; x++) {
                if (!cells.has(x, y) && !known.contains(x * 100 + y)) {
                    Set<Integer> gap = together(cells, x, y);
                    known.addAll(gap);
                    count += gap.contains(-1 * 100 - 1) ? 0 : 1;
                }
            }
        }
        return count;
    }

    private static int strips(Cells cells) {
        Set<String> runs = new HashSet<>();
        int count = 0;
        for (int y = 0; y < 30; y++) {
            for (int x = 0; x < 30; x++) {
                if (cells.has(x, y) && !cells.has(x - 1, y)) {
                    int last = x;
                    while (cells.has(last + 1, y)) {
                        last++;
                    }
                    runs.add(y + " " + x + " " + last);
                    count += runs.contains((y - 1) + " " + x + " " + last) ? 0 : 1;
                }
            }
        }
        return count;
    }

    private static int measure(Cells cells, int what) {
        switch (what) {
            case 0: return area(cells);
            case 1: return edge(cells);
            case 2: return corners(cells, true);
            case 3: return corners(cells, false);
            case 4: return parts(cells);
            case 5: return holes(cells);
            default: return strips(cells);
        }
    }

    private boolean isCovered(Rectangle r) {
        if (!r.lies) {
            return false;
        }
        for (int y = r.top; y < r.bottom; y++) {
            for (int x = r.left; x < r.right; x++) {
                if (depthBut(r.sheet, x, y, r) == 0) {
                    return false;
                }
            }
        }
        return true;
    }

    int ofRectangle(int n, int what) {
        Rectangle r = rectangle(n);
        argument(what, 0, 7);
        int alone = 0;
        for (int y = r.top; y < r.bottom; y++) {
            for (int x = r.left; x < r.right; x++) {
                alone += r.lies && depthBut(r.sheet, x, y, null) == 1 ? 1 : 0;
            }
        }
        return new int[] {r.left, r.right, r.top, r.bottom, r.sheet, r.lies ? 1 : 0, isCovered(r) ? 1 : 0,
            alone}[what];
    }

    int depth(int sheet, int x, int y) {
        sheetIndex(sheet);
        argument(x, 0, 29);
        argument(y, 0, 29);
        return depthBut(sheet, x, y, null);
    }

    String row(int sheet, int y) {
        sheetIndex(sheet);
        argument(y, 0, 29);
        Cells cells = ink(sheet, null);
        String text = "";
        for (int x = 0; x < 30; x++) {
            text += cells.has(x, y) ? "#" : ".";
        }
        return text;
    }

    int inked(int sheet, int y, int from, int to) {
        sheetIndex(sheet);
        argument(y, 0, 29);
        argument(from, 0, 30);
        argument(to, 0, 30);
        if (from > to) {
            return blank();
        }
        return (int) row(sheet, y).substring(from, to).chars().filter(c -> c == '#').count();
    }

    int along(int sheet, int x, int y, boolean isLeft) {
        sheetIndex(sheet);
        argument(x, 0, 29);
        argument(y, 0, 29);
        String row = row(sheet, y);
        return isLeft ? row.substring(0, x).lastIndexOf('#') : row.indexOf('#', x + 1);
    }

    int ofSheet(int sheet, int what) {
        sheetIndex(sheet);
        argument(what, 0, 11);
        if (what <= 6) {
            return measure(ink(sheet, null), what);
        }
        int lying = 0;
        int covered = 0;
        for (Rectangle r : rectangles) {
            if (r.lies && r.sheet == sheet) {
                lying++;
                covered += isCovered(r) ? 1 : 0;
            }
        }
        int greatest = 0;
        int atX = -1;
        int atY = -1;
        for (int y = 0; y < 30; y++) {
            for (int x = 0; x < 30; x++) {
                if (depthBut(sheet, x, y, null) > greatest) {
                    greatest = depthBut(sheet, x, y, null);
                    atX = x;
                    atY = y;
                }
            }
        }
        return new int[] {lying, covered, greatest, atX, atY}[what - 7];
    }

    int piece(int sheet, int x, int y) {
        sheetIndex(sheet);
        argument(x, 0, 29);
        argument(y, 0, 29);
        int count = 0;
        Set<Integer> found = together(ink(sheet, null), x, y);
        for (int cy = 0; cy < 30; cy++) {
            for (int cx = 0; cx < 30; cx++) {
                count += found.contains(cx * 100 + cy) ? 1 : 0;
            }
        }
        return count;
    }

    int deep(int sheet, int depth) {
        sheetIndex(sheet);
        argument(depth, 1, 24);
        int count = 0;
        for (int y = 0; y < 30; y++) {
            for (int x = 0; x < 30; x++) {
                count += depthBut(sheet, x, y, null) >= depth ? 1 : 0;
            }
        }
        return count;
    }

    int both(int one, int other, int how, int what) {
        sheetIndex(one);
        sheetIndex(other);
        argument(how, 0, 3);
        argument(what, 0, 6);
        Cells a = ink(one, null);
        Cells b = ink(other, null);
        Cells[] ways = {
            (x, y) -> a.has(x, y) || b.has(x, y),
            (x, y) -> a.has(x, y) && b.has(x, y),
            (x, y) -> a.has(x, y) && !b.has(x, y),
            (x, y) -> a.has(x, y) != b.has(x, y)};
        return measure(ways[how], what);
    }

    int house(int what) {
        argument(what, 0, 6);
        int lying = ofSheet(0, 7) + ofSheet(1, 7) + ofSheet(2, 7);
        int areas = ofSheet(0, 0) + ofSheet(1, 0) + ofSheet(2, 0);
        return new int[] {buildings.size(), rectangles.size(), lying, told.size(), nines, knocks, areas}[what];
    }

    int would(int left, int right, int height, boolean isTurns) {
        argument(left, 0, 199);
        argument(right, left + 1, 200);
        argument(height, 1, 99);
        int before = shade(skylineBut(null));
        Building b = new Building();
        b.left = left;
        b.right = right;
        b.height = height;
        buildings.add(b);
        int[] heights = skylineBut(null);
        buildings.remove(b);
        return isTurns ? turns(heights).size() : shade(heights) - before;
    }

    int adds(int sheet, int left, int right, int top, int bottom) {
        sheetIndex(sheet);
        argument(left, 0, 29);
        argument(right, left + 1, 30);
        argument(top, 0, 29);
        argument(bottom, top + 1, 30);
        int before = area(ink(sheet, null));
        Rectangle r = made(sheet, left, right, top, bottom);
        rectangles.add(r);
        int after = area(ink(sheet, null));
        rectangles.remove(r);
        return after - before;
    }

    int without(boolean isBuilding, int n) {
        if (isBuilding) {
            Building b = building(n);
            state(b.stands);
            return shade(skylineBut(null)) - shade(skylineBut(b));
        }
        Rectangle r = rectangle(n);
        state(r.lies);
        return area(ink(r.sheet, null)) - area(ink(r.sheet, r));
    }

    int swept(int sheet, boolean isLeft, int line) {
        sheetIndex(sheet);
        argument(line, 0, 29);
        Cells cells = ink(sheet, null);
        int count = 0;
        for (int n = 0; n < 30; n++) {
            count += (isLeft ? cells.has(line, n) : cells.has(n, line)) ? 1 : 0;
        }
        return count;
    }

    /** Each thing that is asked follows from the document's own words, so a house is always sound. */
    boolean isSound() {
        return true;
    }

    private long d;

    private void mix(long v) {
        d = d * 31 + v;
    }

    long digest() {
        d = 6197;
        for (int what = 0; what <= 6; what++) {
            mix(house(what));
        }
        for (int what = 0; what <= 8; what++) {
            mix(town(what));
        }
        for (int[] turn : turns(skylineBut(null))) {
            mix(turn[0]);
            mix(turn[1]);
        }
        for (int x : new int[] {0, 50, 100, 150}) {
            mix(height(x));
        }
        for (int height : new int[] {1, 10, 50}) {
            mix(ladder(height));
        }
        mix(look(100, 5, true));
        mix(look(100, 5, false));
        for (int n = 1; n <= 6 && n <= buildings.size(); n++) {
            for (int what = 0; what <= 6; what++) {
                mix(ofBuilding(buildings.size() - n, what));
            }
        }
        for (int n = 1; n <= 6 && n <= rectangles.size(); n++) {
            for (int what = 0; what <= 7; what++) {
                mix(ofRectangle(rectangles.size() - n, what));
            }
        }
        for (int sheet = 0; sheet <= 2; sheet++) {
            for (int what = 0; what <= 11; what++) {
                mix(ofSheet(sheet, what));
            }
            mix(deep(sheet, 2));
            mix(piece(sheet, 0, 0));
            mix(piece(sheet, 20, 20));
        }
        for (int how = 0; how <= 3; how++) {
            for (int what = 0; what <= 3; what++) {
                mix(both(0, 1, how, what));
            }
        }
        mix(would(10, 30, 7, false));
        mix(would(10, 30, 7, true));
        mix(adds(0, 5, 15, 5, 15));
        mix(isSound() ? 1 : 0);
        return d;
    }
}
