import java.util.Arrays;

/**
 * Buildings and their skyline, and three sheets of rectangles, with all that was told undone step by step.
 * What each call promises stands in ../shared/DOC.md; README.md tells how the class is made.
 */
public final class Skylinesheet {
    private static final int NONE = -1;
    private static final int REFUSED = -9;

    /** An object is used for at most so many calls, so nothing that is told or numbered needs more room. */
    private static final int CALLS = 512;
    /** So many buildings stand at most, and so many rectangles lie at most. */
    private static final int MOST = 24;
    private static final int END = 200;
    private static final int TALLEST = 99;
    private static final int SIDE = 30;
    private static final int SHEETS = 3;

    /** A bare row above a sheet and one below it save every look beyond its edge a test. */
    private static final int LINES = SIDE + 2;
    /** A row is a set of bits, x at the bit x + 1: the lowest and the highest bit are cells beyond the sheet. */
    private static final int INSIDE = 0x7FFFFFFE;

    private static final int BUILD = 0;
    private static final int TEAR = 1;
    private static final int RAISE = 2;
    private static final int LAY = 3;
    private static final int TAKE = 4;
    private static final int SHIFT = 5;
    private static final int TURN = 6;
    private static final int WIPE = 7;

    private static final int JOIN = 0;
    private static final int MEET = 1;
    private static final int LESS = 2;
    private static final int APART = 3;

    private static final int AREA = 0;
    private static final int CONVEX = 2;
    private static final int CONCAVE = 3;
    private static final int PARTS = 4;
    private static final int HOLES = 5;
    private static final int STRIPS = 6;

    private static final long DIGEST_START = 6197L;
    private static final int DIGEST_LAST = 6;

    private final Told told = new Told();
    private final House now = new House();
    /** The house in which isSound() calls again what was told. */
    private final House again = new House();
    private final Flood flood = new Flood();
    /** What is only thought of is drawn on these, so that no call has to make new ones. */
    private final Profile thoughtProfile = new Profile();
    private final Ink thoughtInk = new Ink();
    private final StringBuilder text = new StringBuilder();
    private int refusals;
    private int knocks;

    public Skylinesheet() {
    }

    // ---- buildings

    public int build(int left, int right, int height) throws IllegalArgumentException, IllegalStateException {
        needBuilding(left, right, height);
        if (now.town.standing() >= MOST) {
            throw new IllegalStateException("24 buildings stand");
        }
        tell(BUILD, left, right, height, 0, 0);
        return now.town.built - 1;
    }

    public int tear(int building) throws IndexOutOfBoundsException, IllegalStateException {
        needBuilt(building);
        needStanding(building);
        int before = now.town.skyline.sum();
        tell(TEAR, building, 0, 0, 0, 0);
        return before - now.town.skyline.sum();
    }

    public int raise(int building, int by)
            throws IndexOutOfBoundsException, IllegalArgumentException, IllegalStateException {
        needBuilt(building);
        need(isFrom(by, -TALLEST, TALLEST));
        needStanding(building);
        boolean fits = now.town.canGrow(building, by);
        tell(RAISE, building, by, 0, 0, 0);
        return fits ? now.town.tallOf(building) : NONE;
    }

    // ---- rectangles

    public int lay(int sheet, int left, int right, int top, int bottom)
            throws IndexOutOfBoundsException, IllegalArgumentException, IllegalStateException {
        needSheet(sheet);
        needRectangle(left, right, top, bottom);
        if (now.pile.lying() >= MOST) {
            throw new IllegalStateException("24 rectangles lie");
        }
        tell(LAY, sheet, left, right, top, bottom);
        return now.pile.laid - 1;
    }

    public int take(int rectangle) throws IndexOutOfBoundsException, IllegalStateException {
        needLaid(rectangle);
        needLying(rectangle);
        int sheet = now.pile.sheetOf(rectangle);
        int before = inkOf(sheet).area();
        tell(TAKE, rectangle, 0, 0, 0, 0);
        return before - inkOf(sheet).area();
    }

    public int shift(int rectangle, int right, int down)
            throws IndexOutOfBoundsException, IllegalArgumentException, IllegalStateException {
        needLaid(rectangle);
        need(isFrom(right, -SIDE, SIDE) && isFrom(down, -SIDE, SIDE));
        needLying(rectangle);
        boolean fits = now.pile.canMove(rectangle, right, down);
        tell(SHIFT, rectangle, right, down, 0, 0);
        return fits ? inkOf(now.pile.sheetOf(rectangle)).area() : NONE;
    }

    public int turn(int sheet) throws IndexOutOfBoundsException {
        needSheet(sheet);
        tell(TURN, sheet, 0, 0, 0, 0);
        return now.pile.lyingOn(sheet);
    }

    public int wipe(int sheet) throws IndexOutOfBoundsException {
        needSheet(sheet);
        int before = inkOf(sheet).area();
        tell(WIPE, sheet, 0, 0, 0, 0);
        return before;
    }

    public int undo() throws IllegalStateException {
        if (told.count == 0) {
            throw new IllegalStateException("nothing is told");
        }
        told.forgetLast();
        now.callAgain(told);
        return told.count;
    }

    public int blank() {
        return refuse();
    }

    public int knock() {
        knocks++;
        return knocks;
    }

    // ---- what is asked of the skyline

    public int ofBuilding(int building, int what) throws IndexOutOfBoundsException, IllegalArgumentException {
        needBuilt(building);
        switch (what) {
            case 0:
                return now.town.leftOf(building);
            case 1:
                return now.town.rightOf(building);
            case 2:
                return now.town.tallOf(building);
            case 3:
                return now.town.isStanding(building) ? 1 : 0;
            case 4:
                return now.town.isHidden(building) ? 1 : 0;
            case 5:
                return now.town.isSeenFromLeft(building) ? 1 : 0;
            case 6:
                return now.town.onTop(building);
            default:
                throw new IllegalArgumentException("what is not 0 to 6");
        }
    }

    public int height(int x) throws IllegalArgumentException {
        need(isFrom(x, 0, END));
        return now.town.skyline.at(x);
    }

    public int corner(int nth, boolean isHeight) throws IndexOutOfBoundsException {
        int x = now.town.skyline.turnAt(nth);
        if (x == NONE) {
            throw new IndexOutOfBoundsException("there is no such turn");
        }
        return isHeight ? now.town.skyline.at(x) : x;
    }

    public String skyline() {
        text.setLength(0);
        for (int x = 0; x <= END; x++) {
            if (now.town.skyline.isTurn(x)) {
                if (text.length() > 0) {
                    text.append(' ');
                }
                text.append(x).append(':').append(now.town.skyline.at(x));
            }
        }
        if (text.length() == 0) {
            text.append('-');
        }
        return text.toString();
    }

    public int ladder(int height) throws IllegalArgumentException {
        need(isFrom(height, 1, TALLEST));
        return now.town.skyline.reaching(height);
    }

    public int half(int rest, int x) throws IllegalArgumentException {
        need(isFrom(rest, 0, 1) && isFrom(x, 0, END));
        return now.town.halfOf(rest).at(x);
    }

    public int between(int from, int to) throws IllegalArgumentException {
        need(isFrom(from, 0, END) && isFrom(to, 0, END));
        return from > to ? refuse() : now.town.skyline.turns(from, to);
    }

    public int look(int x, int height, boolean isLeft) throws IllegalArgumentException {
        need(isFrom(x, 0, END) && isFrom(height, 1, TALLEST));
        return now.town.skyline.nearest(x, height, isLeft);
    }

    public int town(int what) throws IllegalArgumentException {
        switch (what) {
            case 0:
                return now.town.skyline.turns(0, END);
            case 1:
                return now.town.skyline.sum();
            case 2:
                return now.town.skyline.face();
            case 3:
                return now.town.skyline.peak();
            case 4:
                return now.town.skyline.firstPeak();
            case 5:
                return now.town.standing();
            case 6:
                return now.town.hidden();
            case 7:
                return now.town.seenFromLeft();
            case 8:
                return now.town.skyline.widest();
            default:
                throw new IllegalArgumentException("what is not 0 to 8");
        }
    }

    // ---- what is asked of sheets

    public int ofRectangle(int rectangle, int what) throws IndexOutOfBoundsException, IllegalArgumentException {
        needLaid(rectangle);
        switch (what) {
            case 0:
                return now.pile.leftOf(rectangle);
            case 1:
                return now.pile.rightOf(rectangle);
            case 2:
                return now.pile.topOf(rectangle);
            case 3:
                return now.pile.bottomOf(rectangle);
            case 4:
                return now.pile.sheetOf(rectangle);
            case 5:
                return now.pile.isLying(rectangle) ? 1 : 0;
            case 6:
                return now.pile.isCovered(rectangle) ? 1 : 0;
            case 7:
                return now.pile.aloneIn(rectangle);
            default:
                throw new IllegalArgumentException("what is not 0 to 7");
        }
    }

    public int depth(int sheet, int x, int y) throws IndexOutOfBoundsException, IllegalArgumentException {
        needSheet(sheet);
        needCell(x, y);
        return now.pile.sheet(sheet).depthAt(x, y);
    }

    public String row(int sheet, int y) throws IndexOutOfBoundsException, IllegalArgumentException {
        needSheet(sheet);
        need(isFrom(y, 0, SIDE - 1));
        text.setLength(0);
        for (int x = 0; x < SIDE; x++) {
            text.append(inkOf(sheet).has(x, y) ? '#' : '.');
        }
        return text.toString();
    }

    public int inked(int sheet, int y, int from, int to) throws IndexOutOfBoundsException, IllegalArgumentException {
        needSheet(sheet);
        need(isFrom(y, 0, SIDE - 1) && isFrom(from, 0, SIDE) && isFrom(to, 0, SIDE));
        return from > to ? refuse() : inkOf(sheet).inBox(from, to, y, y + 1);
    }

    public int along(int sheet, int x, int y, boolean isLeft)
            throws IndexOutOfBoundsException, IllegalArgumentException {
        needSheet(sheet);
        needCell(x, y);
        return inkOf(sheet).nearest(x, y, isLeft);
    }

    public int ofSheet(int sheet, int what) throws IndexOutOfBoundsException, IllegalArgumentException {
        needSheet(sheet);
        need(isFrom(what, 0, 11));
        switch (what) {
            case 7:
                return now.pile.lyingOn(sheet);
            case 8:
                return now.pile.coveredOn(sheet);
            case 9:
                return now.pile.sheet(sheet).greatestDepth();
            case 10:
                return now.pile.sheet(sheet).xOfDeepest();
            case 11:
                return now.pile.sheet(sheet).yOfDeepest();
            default:
                return measure(inkOf(sheet), what);
        }
    }

    public int piece(int sheet, int x, int y) throws IndexOutOfBoundsException, IllegalArgumentException {
        needSheet(sheet);
        needCell(x, y);
        return flood.sizeAt(inkOf(sheet), x, y);
    }

    public int deep(int sheet, int depth) throws IndexOutOfBoundsException, IllegalArgumentException {
        needSheet(sheet);
        need(isFrom(depth, 1, MOST));
        return now.pile.sheet(sheet).atLeast(depth).area();
    }

    public int both(int one, int other, int how, int what) throws IndexOutOfBoundsException, IllegalArgumentException {
        needSheet(one);
        needSheet(other);
        need(isFrom(how, JOIN, APART) && isFrom(what, AREA, STRIPS));
        thoughtInk.blend(inkOf(one), inkOf(other), how);
        return measure(thoughtInk, what);
    }

    public int house(int what) throws IllegalArgumentException {
        switch (what) {
            case 0:
                return now.town.built;
            case 1:
                return now.pile.laid;
            case 2:
                return now.pile.lying();
            case 3:
                return told.count;
            case 4:
                return refusals;
            case 5:
                return knocks;
            case 6:
                return inkOf(0).area() + inkOf(1).area() + inkOf(2).area();
            default:
                throw new IllegalArgumentException("what is not 0 to 6");
        }
    }

    // ---- what would be

    public int would(int left, int right, int height, boolean isTurns) throws IllegalArgumentException {
        needBuilding(left, right, height);
        thoughtProfile.copy(now.town.skyline);
        thoughtProfile.lift(left, right, height);
        return isTurns ? thoughtProfile.turns(0, END) : thoughtProfile.sum() - now.town.skyline.sum();
    }

    public int adds(int sheet, int left, int right, int top, int bottom)
            throws IndexOutOfBoundsException, IllegalArgumentException {
        needSheet(sheet);
        needRectangle(left, right, top, bottom);
        return (right - left) * (bottom - top) - inkOf(sheet).inBox(left, right, top, bottom);
    }

    public int without(boolean isBuilding, int number) throws IndexOutOfBoundsException, IllegalStateException {
        if (isBuilding) {
            needBuilt(number);
            needStanding(number);
            return now.town.loss(number);
        }
        needLaid(number);
        needLying(number);
        return inkOf(now.pile.sheetOf(number)).area() - areaWithout(number);
    }

    public int swept(int sheet, boolean isLeft, int line) throws IndexOutOfBoundsException, IllegalArgumentException {
        needSheet(sheet);
        need(isFrom(line, 0, SIDE - 1));
        return sweep(inkOf(sheet), isLeft, line);
    }

    public boolean isSound() {
        if (!isTownSound()) {
            return false;
        }
        for (int sheet = 0; sheet < SHEETS; sheet++) {
            if (!isSheetSound(sheet) || !areCoversSound(sheet)) {
                return false;
            }
            for (int other = sheet + 1; other < SHEETS; other++) {
                if (!isPairSound(inkOf(sheet), inkOf(other))) {
                    return false;
                }
            }
        }
        again.callAgain(told);
        return again.looksLike(now);
    }

    public long digest() {
        long d = DIGEST_START;
        for (int what = 0; what <= 6; what++) {
            d = mix(d, house(what));
        }
        d = digestTown(d);
        d = digestLast(d);
        for (int sheet = 0; sheet < SHEETS; sheet++) {
            for (int what = 0; what <= 11; what++) {
                d = mix(d, ofSheet(sheet, what));
            }
            d = mix(d, deep(sheet, 2));
            d = mix(d, piece(sheet, 0, 0));
            d = mix(d, piece(sheet, 20, 20));
        }
        for (int how = JOIN; how <= APART; how++) {
            for (int what = AREA; what <= CONCAVE; what++) {
                d = mix(d, both(0, 1, how, what));
            }
        }
        d = mix(d, would(10, 30, 7, false));
        d = mix(d, would(10, 30, 7, true));
        d = mix(d, adds(0, 5, 15, 5, 15));
        return mix(d, isSound() ? 1 : 0);
    }

    // ---- what the calls above have in common

    private static boolean isFrom(int number, int first, int last) {
        return number >= first && number <= last;
    }

    private static void need(boolean isAllowed) {
        if (!isAllowed) {
            throw new IllegalArgumentException("a number is out of its bounds");
        }
    }

    private static void needBuilding(int left, int right, int height) {
        need(isFrom(left, 0, END - 1) && isFrom(right, left + 1, END) && isFrom(height, 1, TALLEST));
    }

    private static void needRectangle(int left, int right, int top, int bottom) {
        need(isFrom(left, 0, SIDE - 1) && isFrom(right, left + 1, SIDE));
        need(isFrom(top, 0, SIDE - 1) && isFrom(bottom, top + 1, SIDE));
    }

    private static void needCell(int x, int y) {
        need(isFrom(x, 0, SIDE - 1) && isFrom(y, 0, SIDE - 1));
    }

    private static void needSheet(int sheet) {
        if (!isFrom(sheet, 0, SHEETS - 1)) {
            throw new IndexOutOfBoundsException("there is no such sheet");
        }
    }

    private void needBuilt(int building) {
        if (!now.town.isBuilt(building)) {
            throw new IndexOutOfBoundsException("there is no such building");
        }
    }

    private void needStanding(int building) {
        if (!now.town.isStanding(building)) {
            throw new IllegalStateException("the building does not stand");
        }
    }

    private void needLaid(int rectangle) {
        if (!now.pile.isLaid(rectangle)) {
            throw new IndexOutOfBoundsException("there is no such rectangle");
        }
    }

    private void needLying(int rectangle) {
        if (!now.pile.isLying(rectangle)) {
            throw new IllegalStateException("the rectangle does not lie");
        }
    }

    /** Beyond the calls that an object is used for the row of what is told is full, and nothing changes any more. */
    private void tell(int kind, int first, int second, int third, int fourth, int fifth) {
        if (told.add(kind, first, second, third, fourth, fifth)) {
            now.carryOut(told, told.count - 1);
            now.draw();
        }
    }

    private int refuse() {
        refusals++;
        return REFUSED;
    }

    private Ink inkOf(int sheet) {
        return now.pile.sheet(sheet).atLeast(1);
    }

    private int measure(Ink ink, int what) {
        switch (what) {
            case PARTS:
                return flood.pieces(ink, true);
            case HOLES:
                // one gap is that of the cells beyond the sheet
                return flood.pieces(ink, false) - 1;
            default:
                return ink.measure(what);
        }
    }

    private int areaWithout(int rectangle) {
        now.pile.drawWithout(rectangle, thoughtInk);
        return thoughtInk.area();
    }

    private static int sweep(Ink ink, boolean isLeft, int line) {
        return isLeft ? ink.inBox(line, line + 1, 0, SIDE) : ink.inBox(0, SIDE, line, line + 1);
    }

    // ---- what isSound() looks at

    private boolean isTownSound() {
        Profile skyline = now.town.skyline;
        int last = NONE;
        for (int x = 0; x <= END; x++) {
            int tall = skyline.at(x);
            if (tall != Math.max(now.town.halfOf(0).at(x), now.town.halfOf(1).at(x))) {
                return false;
            }
            if (skyline.isTurn(x)) {
                if (tall == last) {
                    return false;
                }
                last = tall;
            }
        }
        return true;
    }

    private boolean isSheetSound(int sheet) {
        Ink ink = inkOf(sheet);
        int fromLeft = 0;
        int fromBelow = 0;
        for (int line = 0; line < SIDE; line++) {
            fromLeft += sweep(ink, true, line);
            fromBelow += sweep(ink, false, line);
        }
        int corners = measure(ink, CONVEX) - measure(ink, CONCAVE);
        return fromLeft == fromBelow && corners == 4 * (measure(ink, PARTS) - measure(ink, HOLES));
    }

    private boolean areCoversSound(int sheet) {
        int area = inkOf(sheet).area();
        for (int n = 0; n < now.pile.laid; n++) {
            if (now.pile.isLyingOn(n, sheet) && now.pile.isCovered(n) != (areaWithout(n) == area)) {
                return false;
            }
        }
        return true;
    }

    private boolean isPairSound(Ink one, Ink other) {
        int join = blendedArea(one, other, JOIN);
        int meet = blendedArea(one, other, MEET);
        int parted = blendedArea(one, other, LESS) + blendedArea(other, one, LESS);
        return one.area() + other.area() == join + meet && parted + meet == join;
    }

    private int blendedArea(Ink one, Ink other, int how) {
        thoughtInk.blend(one, other, how);
        return thoughtInk.area();
    }

    // ---- what digest() takes up

    private static long mix(long d, int value) {
        return d * 31L + value;
    }

    private long digestTown(long start) {
        long d = start;
        for (int what = 0; what <= 8; what++) {
            d = mix(d, town(what));
        }
        for (int x = 0; x <= END; x++) {
            if (now.town.skyline.isTurn(x)) {
                d = mix(d, x);
                d = mix(d, now.town.skyline.at(x));
            }
        }
        for (int x = 0; x <= 150; x += 50) {
            d = mix(d, height(x));
        }
        d = mix(d, ladder(1));
        d = mix(d, ladder(10));
        d = mix(d, ladder(50));
        d = mix(d, look(100, 5, true));
        return mix(d, look(100, 5, false));
    }

    private long digestLast(long start) {
        long d = start;
        int built = now.town.built;
        for (int n = built - 1; n >= 0 && n >= built - DIGEST_LAST; n--) {
            for (int what = 0; what <= 6; what++) {
                d = mix(d, ofBuilding(n, what));
            }
        }
        int laid = now.pile.laid;
        for (int n = laid - 1; n >= 0 && n >= laid - DIGEST_LAST; n--) {
            for (int what = 0; what <= 7; what++) {
                d = mix(d, ofRectangle(n, what));
            }
        }
        return d;
    }

    /** The calls that threw nothing, in their order. */
    private static final class Told {
        private static final int WIDTH = 6;

        private final int[] parts = new int[CALLS * WIDTH];
        private int count;

        boolean add(int kind, int first, int second, int third, int fourth, int fifth) {
            if (count >= CALLS) {
                return false;
            }
            int start = count * WIDTH;
            parts[start] = kind;
            parts[start + 1] = first;
            parts[start + 2] = second;
            parts[start + 3] = third;
            parts[start + 4] = fourth;
            parts[start + 5] = fifth;
            count++;
            return true;
        }

        void forgetLast() {
            if (count > 0) {
                count--;
            }
        }

        /** Part 0 of a call is its kind, parts 1 to 5 are its arguments. */
        int part(int nth, int which) {
            boolean isThere = nth >= 0 && nth < count && which >= 0 && which < WIDTH;
            return isThere ? parts[nth * WIDTH + which] : NONE;
        }
    }

    /** All that told calls change. */
    private static final class House {
        private final Town town = new Town();
        private final Pile pile = new Pile();

        /** Undoing is calling the rest again: so nothing has to be remembered of what a call changed. */
        void callAgain(Told told) {
            town.clear();
            pile.clear();
            for (int nth = 0; nth < told.count; nth++) {
                carryOut(told, nth);
            }
            draw();
        }

        void carryOut(Told told, int nth) {
            int first = told.part(nth, 1);
            int second = told.part(nth, 2);
            int third = told.part(nth, 3);
            switch (told.part(nth, 0)) {
                case BUILD:
                    town.add(first, second, third);
                    break;
                case TEAR:
                    town.remove(first);
                    break;
                case RAISE:
                    town.grow(first, second);
                    break;
                case LAY:
                    pile.add(first, second, third, told.part(nth, 4), told.part(nth, 5));
                    break;
                case TAKE:
                    pile.remove(first);
                    break;
                case SHIFT:
                    pile.move(first, second, third);
                    break;
                case TURN:
                    pile.exchange(first);
                    break;
                case WIPE:
                    pile.removeAll(first);
                    break;
                default:
                    break;
            }
        }

        void draw() {
            town.draw();
            pile.draw();
        }

        boolean looksLike(House other) {
            if (!town.skyline.isLike(other.town.skyline)) {
                return false;
            }
            for (int sheet = 0; sheet < SHEETS; sheet++) {
                if (!pile.sheet(sheet).atLeast(1).isLike(other.pile.sheet(sheet).atLeast(1))) {
                    return false;
                }
            }
            return true;
        }
    }

    /** A height at each x from 0 to 200; beyond these it is 0. */
    private static final class Profile {
        private final int[] tall = new int[END + 1];

        void clear() {
            Arrays.fill(tall, 0);
        }

        void copy(Profile other) {
            System.arraycopy(other.tall, 0, tall, 0, tall.length);
        }

        /** Makes each height from left on, without right, at least so much. */
        void lift(int left, int right, int least) {
            for (int x = Math.max(left, 0); x < right && x <= END; x++) {
                tall[x] = Math.max(tall[x], least);
            }
        }

        int at(int x) {
            return x >= 0 && x <= END ? tall[x] : 0;
        }

        boolean isTurn(int x) {
            return at(x) != at(x - 1);
        }

        int turns(int from, int to) {
            int count = 0;
            for (int x = from; x <= to && x <= END; x++) {
                if (isTurn(x)) {
                    count++;
                }
            }
            return count;
        }

        int turnAt(int nth) {
            int count = 0;
            for (int x = 0; x <= END; x++) {
                if (isTurn(x)) {
                    if (count == nth) {
                        return x;
                    }
                    count++;
                }
            }
            return NONE;
        }

        int sum() {
            int sum = 0;
            for (int x = 0; x <= END; x++) {
                sum += tall[x];
            }
            return sum;
        }

        int face() {
            int sum = 0;
            for (int x = 0; x <= END; x++) {
                sum += Math.abs(at(x) - at(x - 1));
            }
            return sum;
        }

        int peak() {
            int peak = 0;
            for (int x = 0; x <= END; x++) {
                peak = Math.max(peak, tall[x]);
            }
            return peak;
        }

        int firstPeak() {
            int peak = peak();
            return peak == 0 ? NONE : nearest(-1, peak, false);
        }

        int reaching(int least) {
            int count = 0;
            for (int x = 0; x <= END; x++) {
                if (tall[x] >= least) {
                    count++;
                }
            }
            return count;
        }

        /** The least is above 0, so nothing beyond the ends reaches it. */
        int nearest(int x, int least, boolean isLeft) {
            for (int far = 1; far <= END + 1; far++) {
                int there = isLeft ? x - far : x + far;
                if (at(there) >= least) {
                    return there;
                }
            }
            return NONE;
        }

        int widest() {
            int widest = 0;
            int wide = 0;
            for (int x = 0; x <= END; x++) {
                wide = isTurn(x) ? 1 : wide + 1;
                if (tall[x] != 0) {
                    widest = Math.max(widest, wide);
                }
            }
            return widest;
        }

        boolean isLike(Profile other) {
            for (int x = 0; x <= END; x++) {
                if (tall[x] != other.tall[x]) {
                    return false;
                }
            }
            return true;
        }
    }

    /** The buildings, and what is seen of them together. */
    private static final class Town {
        private final int[] lefts = new int[CALLS];
        private final int[] rights = new int[CALLS];
        private final int[] talls = new int[CALLS];
        private final boolean[] stand = new boolean[CALLS];
        private int built;
        private final Profile skyline = new Profile();
        /** The second height at each x, as high as the first where two are highest: it tells what one alone adds. */
        private final Profile behind = new Profile();
        private final Profile evens = new Profile();
        private final Profile odds = new Profile();

        void clear() {
            built = 0;
        }

        void add(int left, int right, int tall) {
            if (built < CALLS) {
                lefts[built] = left;
                rights[built] = right;
                talls[built] = tall;
                stand[built] = true;
                built++;
            }
        }

        void remove(int n) {
            if (isBuilt(n)) {
                stand[n] = false;
            }
        }

        boolean canGrow(int n, int by) {
            return isBuilt(n) && isFrom(talls[n] + by, 1, TALLEST);
        }

        void grow(int n, int by) {
            if (canGrow(n, by)) {
                talls[n] += by;
            }
        }

        void draw() {
            skyline.clear();
            behind.clear();
            evens.clear();
            odds.clear();
            for (int n = 0; n < built; n++) {
                if (stand[n]) {
                    drawOne(lefts[n], rights[n], talls[n]);
                    halfOf(n % 2).lift(lefts[n], rights[n], talls[n]);
                }
            }
        }

        private void drawOne(int left, int right, int tall) {
            for (int x = left; x < right; x++) {
                behind.lift(x, x + 1, Math.min(tall, skyline.at(x)));
            }
            skyline.lift(left, right, tall);
        }

        Profile halfOf(int rest) {
            return rest == 0 ? evens : odds;
        }

        boolean isBuilt(int n) {
            return n >= 0 && n < built;
        }

        boolean isStanding(int n) {
            return n >= 0 && n < built && stand[n];
        }

        int leftOf(int n) {
            return isBuilt(n) ? lefts[n] : NONE;
        }

        int rightOf(int n) {
            return isBuilt(n) ? rights[n] : NONE;
        }

        int tallOf(int n) {
            return isBuilt(n) ? talls[n] : NONE;
        }

        int standing() {
            int count = 0;
            for (int n = 0; n < built; n++) {
                if (stand[n]) {
                    count++;
                }
            }
            return count;
        }

        /** By how much the heights are less in sum without that building. */
        int loss(int n) {
            int loss = 0;
            if (isStanding(n)) {
                for (int x = lefts[n]; x < rights[n]; x++) {
                    loss += Math.max(0, talls[n] - behind.at(x));
                }
            }
            return loss;
        }

        boolean isHidden(int n) {
            return isStanding(n) && loss(n) == 0;
        }

        int hidden() {
            int count = 0;
            for (int n = 0; n < built; n++) {
                if (isHidden(n)) {
                    count++;
                }
            }
            return count;
        }

        boolean isSeenFromLeft(int n) {
            if (!isStanding(n)) {
                return false;
            }
            for (int other = 0; other < built; other++) {
                if (other != n && stand[other] && standsInFrontOf(other, n)) {
                    return false;
                }
            }
            return true;
        }

        /** Whether one building keeps another one from being seen from the left. */
        private boolean standsInFrontOf(int one, int other) {
            if (!isBuilt(one) || !isBuilt(other) || lefts[one] > lefts[other] || talls[one] < talls[other]) {
                return false;
            }
            return lefts[one] < lefts[other] || talls[one] > talls[other] || one < other;
        }

        int seenFromLeft() {
            int count = 0;
            for (int n = 0; n < built; n++) {
                if (isSeenFromLeft(n)) {
                    count++;
                }
            }
            return count;
        }

        int onTop(int n) {
            int count = 0;
            if (isStanding(n)) {
                for (int x = lefts[n]; x < rights[n]; x++) {
                    if (skyline.at(x) == talls[n]) {
                        count++;
                    }
                }
            }
            return count;
        }
    }

    /** The rectangles, and the sheets that are drawn of those that lie. */
    private static final class Pile {
        private final int[] sheetNumbers = new int[CALLS];
        private final int[] lefts = new int[CALLS];
        private final int[] rights = new int[CALLS];
        private final int[] tops = new int[CALLS];
        private final int[] bottoms = new int[CALLS];
        private final boolean[] lie = new boolean[CALLS];
        private int laid;
        private final Sheet first = new Sheet();
        private final Sheet second = new Sheet();
        private final Sheet third = new Sheet();

        void clear() {
            laid = 0;
        }

        void add(int sheet, int left, int right, int top, int bottom) {
            if (laid < CALLS) {
                sheetNumbers[laid] = sheet;
                lefts[laid] = left;
                rights[laid] = right;
                tops[laid] = top;
                bottoms[laid] = bottom;
                lie[laid] = true;
                laid++;
            }
        }

        void remove(int n) {
            if (isLaid(n)) {
                lie[n] = false;
            }
        }

        void removeAll(int sheet) {
            for (int n = 0; n < laid; n++) {
                if (sheetNumbers[n] == sheet) {
                    lie[n] = false;
                }
            }
        }

        boolean canMove(int n, int right, int down) {
            return isLaid(n) && lefts[n] + right >= 0 && rights[n] + right <= SIDE
                    && tops[n] + down >= 0 && bottoms[n] + down <= SIDE;
        }

        void move(int n, int right, int down) {
            if (canMove(n, right, down)) {
                lefts[n] += right;
                rights[n] += right;
                tops[n] += down;
                bottoms[n] += down;
            }
        }

        /** Exchanges x and y of all that lies on the sheet. */
        void exchange(int sheet) {
            for (int n = 0; n < laid; n++) {
                if (isLyingOn(n, sheet)) {
                    int left = lefts[n];
                    int right = rights[n];
                    lefts[n] = tops[n];
                    rights[n] = bottoms[n];
                    tops[n] = left;
                    bottoms[n] = right;
                }
            }
        }

        void draw() {
            first.clear();
            second.clear();
            third.clear();
            for (int n = 0; n < laid; n++) {
                if (lie[n]) {
                    sheet(sheetNumbers[n]).add(lefts[n], rights[n], tops[n], bottoms[n]);
                }
            }
        }

        /** Draws the sheet of a rectangle from all others that lie on it. */
        void drawWithout(int n, Ink into) {
            into.clear();
            int sheet = sheetOf(n);
            for (int other = 0; other < laid; other++) {
                if (other != n && isLyingOn(other, sheet)) {
                    into.add(lefts[other], rights[other], tops[other], bottoms[other]);
                }
            }
        }

        Sheet sheet(int number) {
            return number == 0 ? first : number == 1 ? second : third;
        }

        boolean isLaid(int n) {
            return n >= 0 && n < laid;
        }

        boolean isLying(int n) {
            return isLaid(n) && lie[n];
        }

        boolean isLyingOn(int n, int sheet) {
            return isLaid(n) && lie[n] && sheetNumbers[n] == sheet;
        }

        int sheetOf(int n) {
            return isLaid(n) ? sheetNumbers[n] : NONE;
        }

        int leftOf(int n) {
            return isLaid(n) ? lefts[n] : NONE;
        }

        int rightOf(int n) {
            return isLaid(n) ? rights[n] : NONE;
        }

        int topOf(int n) {
            return isLaid(n) ? tops[n] : NONE;
        }

        int bottomOf(int n) {
            return isLaid(n) ? bottoms[n] : NONE;
        }

        int lying() {
            return lyingOn(0) + lyingOn(1) + lyingOn(2);
        }

        int lyingOn(int sheet) {
            int count = 0;
            for (int n = 0; n < laid; n++) {
                if (isLyingOn(n, sheet)) {
                    count++;
                }
            }
            return count;
        }

        /** How many cells of a rectangle no other one has. */
        int aloneIn(int n) {
            if (!isLying(n)) {
                return 0;
            }
            Sheet sheet = sheet(sheetNumbers[n]);
            return sheet.atLeast(1).inBox(lefts[n], rights[n], tops[n], bottoms[n])
                    - sheet.atLeast(2).inBox(lefts[n], rights[n], tops[n], bottoms[n]);
        }

        boolean isCovered(int n) {
            return isLying(n) && aloneIn(n) == 0;
        }

        int coveredOn(int sheet) {
            int count = 0;
            for (int n = 0; n < laid; n++) {
                if (isLyingOn(n, sheet) && isCovered(n)) {
                    count++;
                }
            }
            return count;
        }
    }

    /** A sheet as layers of ink: the layer of each depth has the cells with that depth or more. */
    private static final class Sheet {
        private final Ink[] layers = new Ink[MOST];

        Sheet() {
            for (int n = 0; n < MOST; n++) {
                layers[n] = new Ink();
            }
        }

        void clear() {
            for (int n = 0; n < MOST; n++) {
                layers[n].clear();
            }
        }

        /** What a layer has already goes to the next one. */
        void add(int left, int right, int top, int bottom) {
            for (int y = top; y < bottom; y++) {
                int bits = Ink.bitsOf(left, right);
                for (int n = 0; n < MOST && bits != 0; n++) {
                    bits = layers[n].addToRow(y, bits);
                }
            }
        }

        Ink atLeast(int depth) {
            return layers[Math.max(0, Math.min(depth, MOST) - 1)];
        }

        int depthAt(int x, int y) {
            int depth = 0;
            for (int n = 0; n < MOST; n++) {
                if (layers[n].has(x, y)) {
                    depth++;
                }
            }
            return depth;
        }

        int greatestDepth() {
            for (int depth = MOST; depth >= 1; depth--) {
                if (atLeast(depth).firstRow() != NONE) {
                    return depth;
                }
            }
            return 0;
        }

        int yOfDeepest() {
            return atLeast(greatestDepth()).firstRow();
        }

        int xOfDeepest() {
            int y = yOfDeepest();
            return y == NONE ? NONE : atLeast(greatestDepth()).nearest(-1, y, false);
        }
    }

    /** Which cells of a sheet are inked. */
    private static final class Ink {
        private final int[] rows = new int[LINES];

        void clear() {
            Arrays.fill(rows, 0);
        }

        static int bitsOf(int left, int right) {
            return (1 << (right + 1)) - (1 << (left + 1));
        }

        /** The bits of a row from -1, above the sheet, to 30, below it. */
        int bits(int y) {
            return y >= -1 && y <= SIDE ? rows[y + 1] : 0;
        }

        /** Answers which of the bits were there already. */
        int addToRow(int y, int bits) {
            if (y < 0 || y >= SIDE) {
                return 0;
            }
            int before = rows[y + 1];
            rows[y + 1] = before | bits;
            return before & bits;
        }

        void add(int left, int right, int top, int bottom) {
            for (int y = top; y < bottom; y++) {
                addToRow(y, bitsOf(left, right));
            }
        }

        void blend(Ink one, Ink other, int how) {
            for (int line = 0; line < LINES; line++) {
                rows[line] = blendedBits(one.rows[line], other.rows[line], how);
            }
        }

        private static int blendedBits(int one, int other, int how) {
            switch (how) {
                case JOIN:
                    return one | other;
                case MEET:
                    return one & other;
                case LESS:
                    return one & ~other;
                default:
                    return one ^ other;
            }
        }

        boolean has(int x, int y) {
            return x >= 0 && x < SIDE && ((bits(y) >>> (x + 1)) & 1) == 1;
        }

        boolean isLike(Ink other) {
            for (int line = 0; line < LINES; line++) {
                if (rows[line] != other.rows[line]) {
                    return false;
                }
            }
            return true;
        }

        int firstRow() {
            for (int y = 0; y < SIDE; y++) {
                if (bits(y) != 0) {
                    return y;
                }
            }
            return NONE;
        }

        int nearest(int x, int y, boolean isLeft) {
            for (int far = 1; far <= SIDE; far++) {
                int there = isLeft ? x - far : x + far;
                if (has(there, y)) {
                    return there;
                }
            }
            return NONE;
        }

        int inBox(int left, int right, int top, int bottom) {
            int count = 0;
            for (int y = top; y < bottom; y++) {
                count += Integer.bitCount(bits(y) & bitsOf(left, right));
            }
            return count;
        }

        int area() {
            int count = 0;
            for (int line = 0; line < LINES; line++) {
                count += Integer.bitCount(rows[line]);
            }
            return count;
        }

        /** What ofSheet() asks for by the same numbers, but for parts and holes. */
        int measure(int what) {
            switch (what) {
                case AREA:
                    return area();
                case CONVEX:
                    return convexCorners();
                case CONCAVE:
                    return concaveCorners();
                case STRIPS:
                    return strips();
                default:
                    return edge();
            }
        }

        private int edge() {
            int count = 0;
            for (int y = 0; y <= SIDE; y++) {
                int bits = bits(y);
                count += Integer.bitCount(bits ^ (bits << 1)) + Integer.bitCount(bits ^ bits(y - 1));
            }
            return count;
        }

        private int convexCorners() {
            int count = 0;
            for (int y = 0; y <= SIDE; y++) {
                int above = bits(y - 1);
                int below = bits(y);
                int ofAbove = above ^ (above << 1);
                int ofBelow = below ^ (below << 1);
                int pairs = (above & (above << 1)) | (below & (below << 1));
                count += Integer.bitCount((ofAbove ^ ofBelow) & ~pairs);
                count += 2 * Integer.bitCount(ofAbove & ofBelow & (above ^ below));
            }
            return count;
        }

        private int concaveCorners() {
            int count = 0;
            for (int y = 0; y <= SIDE; y++) {
                int above = bits(y - 1);
                int below = bits(y);
                int pairs = (above & (above << 1)) | (below & (below << 1));
                count += Integer.bitCount((above ^ (above << 1) ^ below ^ (below << 1)) & pairs);
            }
            return count;
        }

        /** A strip begins with each run that is not a run of the row above as well. */
        private int strips() {
            int count = 0;
            for (int y = 0; y < SIDE; y++) {
                int rest = bits(y);
                for (int n = 0; n < SIDE && rest != 0; n++) {
                    // adding its lowest bit carries through the first run and ends just behind it
                    int run = rest & ~(rest + (rest & -rest));
                    int around = run | (run << 1) | (run >>> 1);
                    if ((bits(y - 1) & around) != run) {
                        count++;
                    }
                    rest &= ~run;
                }
            }
            return count;
        }
    }

    /** Finds the cells that hang together: inked ones by their sides alone, bare ones by their corners, too. */
    private static final class Flood {
        /** More rounds than there are cells are never needed, as each one but the last finds a cell. */
        private static final int ROUNDS = LINES * LINES;

        private final int[] ground = new int[LINES];
        private final int[] found = new int[LINES];
        private boolean isByCorners;

        /** How many parts there are, or how many gaps, with that of the cells beyond the sheet. */
        int pieces(Ink ink, boolean isInked) {
            begin(ink, isInked);
            int count = 0;
            for (int line = 0; line < LINES; line++) {
                for (int n = 0; n < LINES && ground[line] != 0; n++) {
                    spread(line, ground[line] & -ground[line]);
                    count++;
                    for (int other = 0; other < LINES; other++) {
                        ground[other] &= ~found[other];
                    }
                }
            }
            return count;
        }

        int sizeAt(Ink ink, int x, int y) {
            if (!isFrom(x, 0, SIDE - 1) || !isFrom(y, 0, SIDE - 1)) {
                return 0;
            }
            begin(ink, ink.has(x, y));
            spread(y + 1, 1 << (x + 1));
            int size = 0;
            for (int line = 1; line <= SIDE; line++) {
                size += Integer.bitCount(found[line] & INSIDE);
            }
            return size;
        }

        private void begin(Ink ink, boolean isInked) {
            isByCorners = !isInked;
            for (int line = 0; line < LINES; line++) {
                int bits = ink.bits(line - 1);
                ground[line] = isInked ? bits : ~bits;
            }
        }

        /** Finds all that hangs together with one cell. */
        private void spread(int start, int bit) {
            Arrays.fill(found, 0);
            if (start < 0 || start >= LINES) {
                return;
            }
            found[start] = bit;
            boolean isGrowing = true;
            for (int round = 0; round < ROUNDS && isGrowing; round++) {
                isGrowing = false;
                for (int line = 0; line < LINES; line++) {
                    if (growRow(line)) {
                        isGrowing = true;
                    }
                }
                for (int line = LINES - 1; line >= 0; line--) {
                    if (growRow(line)) {
                        isGrowing = true;
                    }
                }
            }
        }

        /** Lets a row take from the rows beside it and fill its runs; tells whether it found more. */
        private boolean growRow(int line) {
            if (line < 0 || line >= LINES) {
                return false;
            }
            int beside = (line > 0 ? found[line - 1] : 0) | (line < LINES - 1 ? found[line + 1] : 0);
            if (isByCorners) {
                beside |= (beside << 1) | (beside >>> 1);
            }
            int before = found[line];
            int all = (before | beside) & ground[line];
            if (all == 0) {
                return false;
            }
            int runsUp = ground[line];
            int runsDown = ground[line];
            for (int step = 1; step < LINES; step *= 2) {
                all |= (runsUp & (all << step)) | (runsDown & (all >>> step));
                runsUp &= runsUp << step;
                runsDown &= runsDown >>> step;
            }
            found[line] = all;
            return all != before;
        }
    }
}
