import java.util.ArrayDeque;
import java.util.ArrayList;
import java.util.Deque;
import java.util.List;

/**
 * Promises 27, 28 and 30 on shapes that wind: who looks for a part or a gap must go up and down again, from whichever
 * cell he begins at. Each shape stands upright, upside down, mirrored and turned.
 */
public final class WindingTest {
    private static final int SIDE = 30;
    /** Left, right, top and bottom of each line, without right and bottom. */
    private static final int[][] ARCH = {{3, 4, 5, 20}, {3, 15, 5, 6}, {14, 15, 5, 20}};
    private static final int[][] HOOKS = {{0, 1, 9, 30}, {0, 9, 9, 10}, {8, 9, 9, 25}, {8, 20, 24, 25}, {19, 20, 2, 25},
        {19, 29, 2, 3}, {28, 29, 2, 30}};
    private static final int[][] COMB = {{1, 29, 1, 2}, {1, 2, 1, 28}, {5, 6, 1, 12}, {9, 10, 1, 28}, {13, 14, 1, 5},
        {17, 18, 1, 28}, {21, 22, 1, 20}, {25, 26, 1, 28}};
    private static final int[][] HARP = {{1, 2, 0, 29}, {3, 4, 1, 30}, {5, 6, 0, 29}, {7, 8, 1, 30}, {9, 10, 0, 29},
        {11, 12, 1, 30}};

    private final Due due = new Due();

    public static void main(String[] args) {
        WindingTest test = new WindingTest();
        test.byHand();
        test.everyWay("arch", ARCH);
        test.everyWay("hooks", HOOKS);
        test.everyWay("comb", COMB);
        test.everyWay("harp", HARP);
        test.everyWay("snake", snake());
        test.everyWay("spiral", spiral(2));
        test.everyWay("wide spiral", spiral(3));
        Numbers numbers = new Numbers(77);
        for (int n = 0; n < 30; n++) {
            test.shape("lines " + n, lines(numbers, n % 3 == 0));
        }
        test.due.end();
    }

    private void byHand() {
        Skylinesheet s = laid(ARCH);
        due.is("28 an arch, from its left foot", s.piece(0, 3, 19), 40);
        due.is("28 an arch, from its right foot", s.piece(0, 14, 19), 40);
        due.is("28 an arch, from its top", s.piece(0, 8, 5), 40);
        due.is("27 an arch is one part", s.ofSheet(0, 4), 1);
        Skylinesheet t = laid(new int[][] {{3, 4, 5, 20}, {3, 15, 19, 20}, {14, 15, 5, 20}});
        due.is("28 a bowl, from its left end", t.piece(0, 3, 5), 40);
        due.is("28 a bowl, from its right end", t.piece(0, 14, 5), 40);
        Skylinesheet u = laid(spiral(2));
        due.is("27 a spiral is one part", u.ofSheet(0, 4), 1);
        due.is("27 a spiral has no hole", u.ofSheet(0, 5), 0);
        due.is("28 a spiral, from its outer end", u.piece(0, 0, 0), u.ofSheet(0, 0));
        due.is("28 the gap in a spiral", u.piece(0, 1, 1), 900 - u.ofSheet(0, 0));
    }

    private static int[][] snake() {
        int[][] lines = new int[19][];
        for (int n = 0; n < 10; n++) {
            lines[n] = new int[] {0, SIDE, 3 * n, 3 * n + 1};
        }
        for (int n = 0; n < 9; n++) {
            int x = n % 2 == 0 ? SIDE - 1 : 0;
            lines[10 + n] = new int[] {x, x + 1, 3 * n, 3 * n + 4};
        }
        return lines;
    }

    /** Goes round to the middle: right, down, left, up, each time ending so far ahead of where it was before. */
    private static int[][] spiral(int step) {
        List<int[]> lines = new ArrayList<>();
        int left = 0;
        int top = 0;
        int right = SIDE - 1;
        int bottom = SIDE - 1;
        int start = 0;
        while (right - left > step && bottom - top > step && lines.size() < 20) {
            lines.add(new int[] {start, right + 1, top, top + 1});
            lines.add(new int[] {right, right + 1, top, bottom + 1});
            lines.add(new int[] {left, right + 1, bottom, bottom + 1});
            lines.add(new int[] {left, left + 1, top + step, bottom + 1});
            start = left;
            left += step;
            top += step;
            right -= step;
            bottom -= step;
        }
        return lines.toArray(new int[0][]);
    }

    private static int[][] lines(Numbers numbers, boolean isShort) {
        int[][] lines = new int[24][];
        for (int n = 0; n < lines.length; n++) {
            int far = isShort ? 2 + numbers.below(5) : 5 + numbers.below(20);
            int along = numbers.below(SIDE);
            int end = Math.min(SIDE, along + far);
            int across = numbers.below(SIDE);
            lines[n] = numbers.below(2) == 0 ? new int[] {along, end, across, across + 1}
                : new int[] {across, across + 1, along, end};
        }
        return lines;
    }

    private void everyWay(String name, int[][] lines) {
        for (int way = 0; way < 8; way++) {
            int[][] other = new int[lines.length][];
            for (int n = 0; n < lines.length; n++) {
                int[] l = lines[n].clone();
                if ((way & 1) != 0) {
                    l = new int[] {SIDE - l[1], SIDE - l[0], l[2], l[3]};
                }
                if ((way & 2) != 0) {
                    l = new int[] {l[0], l[1], SIDE - l[3], SIDE - l[2]};
                }
                other[n] = (way & 4) != 0 ? new int[] {l[2], l[3], l[0], l[1]} : l;
            }
            shape(name + ", way " + way, other);
        }
    }

    private static Skylinesheet laid(int[][] lines) {
        Skylinesheet s = new Skylinesheet();
        for (int[] l : lines) {
            s.lay(0, l[0], l[1], l[2], l[3]);
        }
        return s;
    }

    private void shape(String name, int[][] lines) {
        Skylinesheet s = laid(lines);
        int[] pieces = new int[2];
        int[][] sizes = sizes(s, pieces);
        for (int y = 0; y < SIDE; y++) {
            for (int x = 0; x < SIDE; x++) {
                due.is("28 " + name + ", piece at " + x + ", " + y, s.piece(0, x, y), sizes[y + 1][x + 1]);
            }
        }
        due.is("27 " + name + ", parts", s.ofSheet(0, 4), pieces[1]);
        due.is("27 " + name + ", holes", s.ofSheet(0, 5), pieces[0] - 1);
        due.is("30 " + name + ", parts of JOIN", s.both(0, 1, 0, 4), pieces[1]);
        due.is("30 " + name + ", holes of APART", s.both(1, 0, 3, 5), pieces[0] - 1);
        due.is("36 " + name + " is sound", s.isSound(), true);
    }

    /** How many cells of the sheet the piece of each cell has; a cell more on each side stands for those beyond. */
    private static int[][] sizes(Skylinesheet s, int[] pieces) {
        boolean[][] isInked = new boolean[SIDE + 2][SIDE + 2];
        for (int y = 0; y < SIDE; y++) {
            String row = s.row(0, y);
            for (int x = 0; x < SIDE; x++) {
                isInked[y + 1][x + 1] = row.charAt(x) == '#';
            }
        }
        int[][] sizes = new int[SIDE + 2][SIDE + 2];
        boolean[][] isSeen = new boolean[SIDE + 2][SIDE + 2];
        for (int y = 0; y < SIDE + 2; y++) {
            for (int x = 0; x < SIDE + 2; x++) {
                if (!isSeen[y][x]) {
                    pieces[isInked[y][x] ? 1 : 0]++;
                    fill(isInked, isSeen, sizes, x, y);
                }
            }
        }
        return sizes;
    }

    private static void fill(boolean[][] isInked, boolean[][] isSeen, int[][] sizes, int startX, int startY) {
        List<int[]> cells = new ArrayList<>();
        Deque<int[]> open = new ArrayDeque<>();
        open.add(new int[] {startX, startY});
        isSeen[startY][startX] = true;
        int size = 0;
        while (!open.isEmpty()) {
            int[] cell = open.remove();
            cells.add(cell);
            size += Math.min(cell[0], cell[1]) > 0 && Math.max(cell[0], cell[1]) <= SIDE ? 1 : 0;
            for (int n = 0; n < 9; n++) {
                int x = cell[0] + n % 3 - 1;
                int y = cell[1] + n / 3 - 1;
                boolean isNear = n % 2 == 1 || !isInked[startY][startX];
                if (isNear && x >= 0 && y >= 0 && x < SIDE + 2 && y < SIDE + 2 && !isSeen[y][x]
                    && isInked[y][x] == isInked[startY][startX]) {
                    isSeen[y][x] = true;
                    open.add(new int[] {x, y});
                }
            }
        }
        for (int[] cell : cells) {
            sizes[cell[1]][cell[0]] = size;
        }
    }
}
