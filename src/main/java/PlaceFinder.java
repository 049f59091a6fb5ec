import java.util.Arrays;

/**
 * Finds where square symbols can stand on a sheet of dots, at any size of module, in any version
 * and turned by any quarter, with some dots wrong, by what all symbols have in common; of those
 * that lie over one another the best; and tells their modules by the majority of dots.
 */
public final class PlaceFinder {
    public static final int NONE = -1;

    private static final int LONGEST = 512;
    private static final int FIRST_SIDE = 64;
    private static final int MOST_MODULE = 16;
    private static final int MOST_VERSION = 40;
    private static final int MOST_LIMIT = 500;
    private static final int MOST_STANDING = 300;
    private static final int PLACE_BITS = 13;

    private final Search search;
    private final Paper paper;
    private final PlaceList standing;
    private final PlaceList leading;

    public PlaceFinder() {
        search = new Search();
        paper = search.paper;
        standing = search.standing;
        leading = new PlaceList();
    }

    public void sheet(int width, int height) throws IllegalArgumentException {
        if (!isWithin(width, 1, LONGEST) || !isWithin(height, 1, LONGEST)) {
            throw new IllegalArgumentException("width and height are 1 .. 512");
        }
        paper.renew(width, height);
        standing.clear();
        leading.clear();
    }

    public int turn(int x, int y, long bits) {
        return paper.flip(x, y, bits);
    }

    public int fill(int x, int y, int w, int h, boolean dark) throws IllegalArgumentException {
        if (!isWithin(w, 1, LONGEST) || !isWithin(h, 1, LONGEST)) {
            throw new IllegalArgumentException("w and h are 1 .. 512");
        }
        return paper.paint(x, y, w, h, dark);
    }

    public int draw(int x, int y, int place) throws IllegalArgumentException {
        if (place >>> PLACE_BITS != 0) {
            throw new IllegalArgumentException("place has bits above those of m");
        }
        int m = Place.moduleOf(place);
        int v = Place.versionOf(place);
        if (!isWithin(m, 1, MOST_MODULE) || !isWithin(v, 1, MOST_VERSION)) {
            throw new IllegalArgumentException("m is 1 .. 16 and v 1 .. 40");
        }
        int length = m * Place.sizeOf(v);
        if (!isWithin(x, 0, paper.width - length) || !isWithin(y, 0, paper.height - length)) {
            throw new IllegalArgumentException("the place lies not on the sheet");
        }
        return drawFixed(new Place(Place.keyOf(x, y, place)));
    }

    public long dots(int x, int y) {
        return paper.bits(x, y);
    }

    public int find(int least, int most, int limit) throws IllegalArgumentException {
        if (!isWithin(least, 1, MOST_MODULE) || !isWithin(most, least, MOST_MODULE)) {
            throw new IllegalArgumentException("least is 1 .. 16 and most least .. 16");
        }
        if (!isWithin(limit, 0, MOST_LIMIT)) {
            throw new IllegalArgumentException("limit is 0 .. 500");
        }
        leading.clear();
        paper.addUp();
        if (!search.look(least, most, limit)) {
            standing.clear();
            return NONE;
        }
        leading.takeLeaders(standing);
        return leading.count;
    }

    public int stood() {
        return standing.count;
    }

    public int place(int k, int what) throws IllegalArgumentException {
        if (!isWithin(what, 0, 5)) {
            throw new IllegalArgumentException("what is 0 .. 5");
        }
        if (!isWithin(k, 0, leading.count - 1)) {
            return NONE;
        }
        int key = leading.keys[k];
        switch (what) {
            case 0:
                return Place.leftOf(key);
            case 1:
                return Place.topOf(key);
            case 2:
                return Place.moduleOf(key);
            case 3:
                return Place.versionOf(key);
            case 4:
                return Place.quarterOf(key);
            default:
                return leading.wrongs[k];
        }
    }

    public long modules(int k, int i, int j) throws IndexOutOfBoundsException {
        if (!isWithin(k, 0, leading.count - 1)) {
            throw new IndexOutOfBoundsException("there is no such place");
        }
        Place found = new Place(leading.keys[k]);
        long answer = 0;
        for (int bit = 0; bit < 64; bit++) {
            // behind the greatest int come those far below 0, which are no modules either
            int column = i + bit;
            if (found.hasModule(column, j) && isMostlyDark(found, column, j)) {
                answer |= 1L << bit;
            }
        }
        return answer;
    }

    private static boolean isWithin(int value, int lowest, int highest) {
        return value >= lowest && value <= highest;
    }

    private boolean isMostlyDark(Place found, int i, int j) {
        int m = found.module;
        int dark = paper.countNow(found.blockLeft(i, j), found.blockTop(i, j), m, m);
        return 2 * dark > m * m;
    }

    private int drawFixed(Place place) {
        int far = place.size - 4;
        int wrong = drawCorner(place, 3, 3) + drawCorner(place, far, 3) + drawCorner(place, 3, far);
        for (int i = 8; i <= place.size - 9; i++) {
            boolean dark = i % 2 == 0;
            wrong += drawModule(place, i, 6, dark) + drawModule(place, 6, i, dark);
        }
        return wrong + drawModule(place, 8, place.size - 8, true);
    }

    private int drawCorner(Place place, int middleI, int middleJ) {
        int wrong = 0;
        for (int j = middleJ - 4; j <= middleJ + 4; j++) {
            for (int i = middleI - 4; i <= middleI + 4; i++) {
                if (place.hasModule(i, j)) {
                    int distance = Math.max(Math.abs(i - middleI), Math.abs(j - middleJ));
                    wrong += drawModule(place, i, j, distance != 2 && distance != 4);
                }
            }
        }
        return wrong;
    }

    private int drawModule(Place place, int i, int j, boolean dark) {
        int m = place.module;
        return paper.paint(place.blockLeft(i, j), place.blockTop(i, j), m, m, dark);
    }

    /**
     * A place, and its form as one int: q, v and m as draw() has them, x and y above these. So
     * the ints of places compare as their places are in order.
     */
    private static final class Place {
        private static final int X_SHIFT = PLACE_BITS;
        private static final int Y_SHIFT = PLACE_BITS + 9;

        final int left;
        final int top;
        final int module;
        final int size;
        final int quarter;

        Place(int key) {
            left = leftOf(key);
            top = topOf(key);
            module = moduleOf(key);
            size = sizeOf(versionOf(key));
            quarter = quarterOf(key);
        }

        static int keyOf(int x, int y, int place) {
            return y << Y_SHIFT | x << X_SHIFT | place;
        }

        static int leftOf(int key) {
            return key >> X_SHIFT & 511;
        }

        static int topOf(int key) {
            return key >> Y_SHIFT & 511;
        }

        static int moduleOf(int key) {
            return key >> 8 & 31;
        }

        static int versionOf(int key) {
            return key >> 2 & 63;
        }

        static int quarterOf(int key) {
            return key & 3;
        }

        static int sizeOf(int version) {
            return 17 + 4 * version;
        }

        static boolean haveCommonDot(int one, int other) {
            int oneLength = moduleOf(one) * sizeOf(versionOf(one));
            int otherLength = moduleOf(other) * sizeOf(versionOf(other));
            return leftOf(one) < leftOf(other) + otherLength
                && leftOf(other) < leftOf(one) + oneLength
                && topOf(one) < topOf(other) + otherLength
                && topOf(other) < topOf(one) + oneLength;
        }

        boolean hasModule(int i, int j) {
            return i >= 0 && i < size && j >= 0 && j < size;
        }

        int blockLeft(int i, int j) {
            int last = size - 1;
            int a = quarter == 0 ? i : quarter == 1 ? last - j : quarter == 2 ? last - i : j;
            return left + module * a;
        }

        int blockTop(int i, int j) {
            int last = size - 1;
            int b = quarter == 0 ? j : quarter == 1 ? i : quarter == 2 ? last - j : last - i;
            return top + module * b;
        }
    }

    /** Places in order with their wrong dots, as many as find() may count. */
    private static final class PlaceList {
        final int[] keys;
        final int[] wrongs;
        int count;

        PlaceList() {
            keys = new int[MOST_STANDING];
            wrongs = new int[MOST_STANDING];
        }

        void clear() {
            count = 0;
        }

        /** Answers false, and adds nothing, when the list is full. */
        boolean add(int key, int wrong) {
            if (count < 0 || count >= MOST_STANDING) {
                return false;
            }
            int at = count;
            while (at > 0 && keys[at - 1] > key) {
                keys[at] = keys[at - 1];
                wrongs[at] = wrongs[at - 1];
                at--;
            }
            keys[at] = key;
            wrongs[at] = wrong;
            count++;
            return true;
        }

        void takeLeaders(PlaceList all) {
            clear();
            for (int i = 0; i < all.count; i++) {
                if (all.leads(i)) {
                    add(all.keys[i], all.wrongs[i]);
                }
            }
        }

        private boolean leads(int one) {
            for (int other = 0; other < count; other++) {
                if (isBetter(other, one) && Place.haveCommonDot(keys[other], keys[one])) {
                    return false;
                }
            }
            return true;
        }

        private boolean isBetter(int other, int one) {
            return wrongs[other] < wrongs[one] || wrongs[other] == wrongs[one] && other < one;
        }
    }

    /** The sheet: its dots as bits, and for find() how many are dark above and left of each. */
    private static final class Paper {
        private static final int WORDS = LONGEST / 64;
        private static final int STRIDE = LONGEST + 1;

        int width;
        int height;
        private final long[] words;
        private final int[] sums;
        /** The sums of so many rows are as the dots are now: find() need not add these up again. */
        private int summedRows;

        Paper() {
            width = FIRST_SIDE;
            height = FIRST_SIDE;
            words = new long[WORDS * LONGEST];
            sums = new int[STRIDE * STRIDE];
        }

        void renew(int newWidth, int newHeight) {
            width = newWidth;
            height = newHeight;
            summedRows = 0;
            Arrays.fill(words, 0L);
        }

        /** The 64 dots of row y from x on; light where the sheet has none. */
        long bits(int x, int y) {
            if (y < 0 || y >= height || x <= -64 || x >= width) {
                return 0;
            }
            int row = y * WORDS;
            if (x < 0) {
                return words[row] << -x;
            }
            int word = x >> 6;
            int shift = x & 63;
            long answer = words[row + word] >>> shift;
            if (shift != 0 && word + 1 < WORDS) {
                answer |= words[row + word + 1] << 64 - shift;
            }
            return answer;
        }

        /** Turns those of the 64 dots from x on that the mask has; answers how many there are. */
        int flip(int x, int y, long mask) {
            if (y < 0 || y >= height || x <= -64 || x >= width) {
                return 0;
            }
            long bits = x < 0 ? mask >>> -x : mask;
            int from = Math.max(x, 0);
            if (width - from < 64) {
                bits &= (1L << width - from) - 1;
            }
            if (bits == 0) {
                return 0;
            }
            int at = y * WORDS + (from >> 6);
            int shift = from & 63;
            words[at] ^= bits << shift;
            if (shift != 0 && (from >> 6) + 1 < WORDS) {
                words[at + 1] ^= bits >>> 64 - shift;
            }
            summedRows = Math.min(summedRows, y);
            return Long.bitCount(bits);
        }

        /** Answers how many dots changed. */
        int paint(int x, int y, int w, int h, boolean dark) {
            int left = Math.max(x, 0);
            int top = Math.max(y, 0);
            int right = (int) Math.min((long) x + w, width);
            int bottom = (int) Math.min((long) y + h, height);
            int changed = 0;
            for (int row = top; row < bottom; row++) {
                for (int from = left; from < right; from += 64) {
                    long now = bits(from, row);
                    changed += flip(from, row, (dark ? ~now : now) & lowest(right - from));
                }
            }
            return changed;
        }

        /** How many dots are dark, from the dots themselves; w is 64 at most. */
        int countNow(int x, int y, int w, int h) {
            int dark = 0;
            for (int row = 0; row < h; row++) {
                dark += Long.bitCount(bits(x, y + row) & lowest(w));
            }
            return dark;
        }

        private static long lowest(int bits) {
            return bits >= 64 ? -1L : (1L << bits) - 1;
        }

        /** Makes countSummed() right for the dots as they are now. */
        void addUp() {
            for (int y = Math.max(summedRows, 0); y < height; y++) {
                if (isLight(y)) {
                    System.arraycopy(sums, y * STRIDE, sums, (y + 1) * STRIDE, width + 1);
                } else {
                    addUpRow(y);
                }
            }
            summedRows = height;
        }

        private boolean isLight(int y) {
            long any = 0;
            for (int word = 0; word < WORDS; word++) {
                any |= words[y * WORDS + word];
            }
            return any == 0;
        }

        private void addUpRow(int y) {
            int above = y * STRIDE + 1;
            int here = above + STRIDE;
            int dark = 0;
            for (int x = 0; x < width; x++) {
                dark += (int) (words[y * WORDS + (x >> 6)] >>> (x & 63)) & 1;
                sums[here + x] = sums[above + x] + dark;
            }
        }

        /** How many dots were dark when addUp() was called; 0 where w or h leaves no dots. */
        int countSummed(int x, int y, int w, int h) {
            if (w <= 0 || h <= 0 || x < 0 || y < 0 || x > width - w || y > height - h) {
                return 0;
            }
            int above = y * STRIDE + x;
            int below = above + h * STRIDE;
            return sums[below + w] - sums[below] - sums[above + w] + sums[above];
        }
    }

    /**
     * Looks for the places at which a symbol can stand. One of a symbol's three corners has no
     * more than a third of the limit's wrong dots: the search sifts the sheet for such corners,
     * and then the places that have one there. It does so by tiles, which are all positions in a
     * rectangle at once: what a box of dots can hold at any of them has bounds, so that a tile is
     * dropped when all are too wrong, and else cut up, down to single positions, where the bounds
     * are the numbers themselves.
     *
     * <p>Corners of a symbol on the sheet, and its sides, go clockwise: corner 0 is left and
     * above, side 0 follows it. A symbol of quarter q has all corners but q + 2, and its lines of
     * changing modules along the sides q and q + 3.
     */
    private static final class Search {
        private static final int DEEPEST = 10;
        private static final int BEYOND_LIMITS = MOST_LIMIT + 1;

        final Paper paper;
        final PlaceList standing;
        private int limit;
        private int third;
        private int module;
        private int size;
        private boolean tooMany;

        private int tileX;
        private int tileY;
        private int spreadX;
        private int spreadY;
        private final int[] quarterFloors;
        /**
         * The wrong dots of the four corners that could have their 7 times 7 modules at a dot, ten
         * bits each, with one added as 0 is for not known; above these the stamp of the module size
         * and find() for which they are: so nothing has to be wiped out.
         */
        private final long[] known;
        private int stamp;

        Search() {
            paper = new Paper();
            standing = new PlaceList();
            quarterFloors = new int[4];
            known = new long[LONGEST * LONGEST];
        }

        /** Answers false when a symbol can stand at too many places. */
        boolean look(int least, int most, int mostWrong) {
            standing.clear();
            limit = mostWrong;
            third = mostWrong / 3;
            tooMany = false;
            int shortest = Math.min(paper.width, paper.height);
            for (int m = least; m <= most && m * Place.sizeOf(1) <= shortest; m++) {
                module = m;
                stamp++;
                siftFinders(0, 0, paper.width - 7 * m, paper.height - 7 * m, 0);
            }
            return !tooMany;
        }

        /** The tile's positions are those of a corner's 7 times 7 modules. */
        private void siftFinders(int left, int top, int right, int bottom, int depth) {
            if (tooMany || depth > DEEPEST || left > right || top > bottom) {
                return;
            }
            takeTile(left, top, right, bottom);
            if (finderFloor(left, top) > third) {
                return;
            }
            // where all is alike, cutting tells nothing new of the corner, the version may
            if (isSingle() || isAlike(left, top, 7 * module)) {
                siftVersions(left, top, right, bottom);
                return;
            }
            int middleX = (left + right) / 2;
            int middleY = (top + bottom) / 2;
            siftFinders(left, top, middleX, middleY, depth + 1);
            siftFinders(middleX + 1, top, right, middleY, depth + 1);
            siftFinders(left, middleY + 1, middleX, bottom, depth + 1);
            siftFinders(middleX + 1, middleY + 1, right, bottom, depth + 1);
        }

        private void siftVersions(int left, int top, int right, int bottom) {
            boolean single = isSingle();
            for (int corner = 0; corner < 4; corner++) {
                int quarters = 15 & ~(1 << (corner + 2 & 3));
                int versions = single && cornerWrong(corner, left, top) > third ? 0 : MOST_VERSION;
                for (int version = 1; version <= versions; version++) {
                    size = Place.sizeOf(version);
                    int far = (size - 7) * module;
                    int x = isRight(corner) ? far : 0;
                    int y = isLow(corner) ? far : 0;
                    int lastX = Math.min(right - x, paper.width - size * module);
                    int lastY = Math.min(bottom - y, paper.height - size * module);
                    int firstX = Math.max(left - x, 0);
                    int firstY = Math.max(top - y, 0);
                    siftPlaces(corner, quarters, firstX, firstY, lastX, lastY, 0);
                }
            }
        }

        /** The tile's positions are those of places; its first corner is the one that was found. */
        private void siftPlaces(
                int first, int quarters, int left, int top, int right, int bottom, int depth) {
            if (tooMany || depth > DEEPEST || left > right || top > bottom) {
                return;
            }
            takeTile(left, top, right, bottom);
            boolean single = isSingle();
            int live = quarters;
            Arrays.fill(quarterFloors, 0);
            for (int step = 0; step < 4; step++) {
                int corner = first + step & 3;
                int without = 1 << (corner + 2 & 3);
                if ((live & ~without) != 0) {
                    int x = finderX(corner);
                    int y = finderY(corner);
                    int floor = single
                        ? cornerWrong(corner, x, y)
                        : finderFloor(x, y) + borderFloor(corner, x, y);
                    boolean isNoFirst = step == 0 && floor > third;
                    // a place is come upon from each of its good corners, but must count once
                    boolean isFoundBefore = single && corner < first && floor <= third;
                    live = isNoFirst || isFoundBefore
                        ? live & without
                        : withCorner(corner, floor, live);
                }
            }
            for (int q = 0; q < 4; q++) {
                if ((live >> q & 1) != 0) {
                    quarterFloors[q] += spotFloor(q);
                    if (quarterFloors[q] + lineFloor(q) + lineFloor(q + 3 & 3) > limit) {
                        live &= ~(1 << q);
                    }
                }
            }
            if (live == 0) {
                return;
            }
            if (single) {
                judge(live);
                return;
            }
            int middleX = (left + right) / 2;
            int middleY = (top + bottom) / 2;
            siftPlaces(first, live, left, top, middleX, middleY, depth + 1);
            siftPlaces(first, live, middleX + 1, top, right, middleY, depth + 1);
            siftPlaces(first, live, left, middleY + 1, middleX, bottom, depth + 1);
            siftPlaces(first, live, middleX + 1, middleY + 1, right, bottom, depth + 1);
        }

        /** Adds a corner's wrong dots to the quarters that have it; answers which are live still. */
        private int withCorner(int corner, int floor, int live) {
            int left = live;
            for (int step = 3; step <= 5; step++) {
                int q = corner + step & 3;
                quarterFloors[q] += floor;
                if (quarterFloors[q] > limit) {
                    left &= ~(1 << q);
                }
            }
            return left;
        }

        private void judge(int live) {
            int version = (size - 17) / 4;
            for (int q = 0; q < 4; q++) {
                if ((live >> q & 1) != 0) {
                    int wrong = withLine(q + 3 & 3, withLine(q, quarterFloors[q]));
                    int key = Place.keyOf(tileX, tileY, module << 8 | version << 2 | q);
                    if (wrong <= limit && !standing.add(key, wrong)) {
                        tooMany = true;
                    }
                }
            }
        }

        private void takeTile(int left, int top, int right, int bottom) {
            tileX = left;
            tileY = top;
            spreadX = right - left;
            spreadY = bottom - top;
        }

        private boolean isSingle() {
            return spreadX == 0 && spreadY == 0;
        }

        private boolean isAlike(int x, int y, int length) {
            int w = length + spreadX;
            int h = length + spreadY;
            int dark = paper.countSummed(x, y, w, h);
            return dark == 0 || dark == w * h;
        }

        private static boolean isRight(int corner) {
            return corner == 1 || corner == 2;
        }

        private static boolean isLow(int corner) {
            return corner >= 2;
        }

        private int finderX(int corner) {
            return tileX + (isRight(corner) ? (size - 7) * module : 0);
        }

        private int finderY(int corner) {
            return tileY + (isLow(corner) ? (size - 7) * module : 0);
        }

        /** So many dots of a corner are wrong at a single position; not told apart beyond any limit. */
        private int cornerWrong(int corner, int x, int y) {
            int m = module;
            int left = isRight(corner) ? x - m : x;
            int top = isLow(corner) ? y - m : y;
            // no symbol has its corner where the corner is not wholly on the sheet
            if (left < 0 || top < 0 || left > paper.width - 8 * m || top > paper.height - 8 * m) {
                return BEYOND_LIMITS;
            }
            int at = y * LONGEST + x;
            int shift = 10 * corner;
            if (known[at] >>> 40 != stamp) {
                known[at] = (long) stamp << 40;
            }
            int before = (int) (known[at] >>> shift) & 1023;
            if (before != 0) {
                return before - 1;
            }
            // each smaller square has the other colour: its dots count the other way round
            int wrong = 33 * m * m
                + paper.countSummed(left, top, 8 * m, 8 * m)
                - 2 * paper.countSummed(x, y, 7 * m, 7 * m)
                + 2 * paper.countSummed(x + m, y + m, 5 * m, 5 * m)
                - 2 * paper.countSummed(x + 2 * m, y + 2 * m, 3 * m, 3 * m);
            wrong = Math.min(wrong, BEYOND_LIMITS);
            known[at] |= (long) (wrong + 1) << shift;
            return wrong;
        }

        /** At least so many of the 7 times 7 modules' dots are wrong. */
        private int finderFloor(int x, int y) {
            int m = module;
            int middleDark = mostDark(x + 2 * m, y + 2 * m, 3 * m, 3 * m);
            int ringAndMiddle = leastDark(x + m, y + m, 5 * m, 5 * m);
            int edgeDark = mostDark(x, y, 7 * m, 7 * m) - ringAndMiddle;
            return 9 * m * m - middleDark
                + Math.max(ringAndMiddle - middleDark, 0)
                + Math.max(24 * m * m - edgeDark, 0);
        }

        /** At least so many dots are wrong of the light modules between a corner and the rest. */
        private int borderFloor(int corner, int x, int y) {
            int m = module;
            int besideX = isRight(corner) ? x - m : x + 7 * m;
            int besideY = isLow(corner) ? y - m : y + 7 * m;
            return leastDark(besideX, y, m, 7 * m) + leastDark(Math.min(x, besideX), besideY, 8 * m, m);
        }

        /** At least so many dots are wrong of the modules that change along a side. */
        private int lineFloor(int side) {
            int length = (size - 16) * module;
            int w = side % 2 == 0 ? length : module;
            int h = side % 2 == 0 ? module : length;
            int due = (size - 15) / 2 * module * module;
            int x = lineX(side);
            int y = lineY(side);
            int missing = due - mostDark(x, y, w, h);
            return missing > 0 ? missing : Math.max(leastDark(x, y, w, h) - due, 0);
        }

        /**
         * Adds the wrong dots of the modules that change along a side, at a single position, but
         * no more of them once there are too many.
         */
        private int withLine(int side, int wrongBefore) {
            int m = module;
            int stepX = side % 2 == 0 ? m : 0;
            int stepY = m - stepX;
            int x = lineX(side);
            int y = lineY(side);
            int wrong = wrongBefore;
            for (int i = 0; i < size - 16 && wrong <= limit; i++) {
                int dark = paper.countSummed(x + i * stepX, y + i * stepY, m, m);
                wrong += i % 2 == 0 ? m * m - dark : dark;
            }
            return wrong;
        }

        private int lineX(int side) {
            return tileX + module * (side == 1 ? size - 7 : side == 3 ? 6 : 8);
        }

        private int lineY(int side) {
            return tileY + module * (side == 0 ? 6 : side == 2 ? size - 7 : 8);
        }

        /** At least so many dots are wrong of the one dark module that stands alone. */
        private int spotFloor(int q) {
            int a = q == 0 ? 8 : q == 1 ? 7 : q == 2 ? size - 9 : size - 8;
            int b = q == 0 ? size - 8 : q == 1 ? 8 : q == 2 ? 7 : size - 9;
            return module * module - mostDark(tileX + module * a, tileY + module * b, module, module);
        }

        /**
         * No more dots are dark in a box whose first position is given, at all positions of the
         * tile: no more than in all of them together, and no more than in what they have in
         * common with all the rest dark.
         */
        private int mostDark(int x, int y, int w, int h) {
            int together = paper.countSummed(x, y, w + spreadX, h + spreadY);
            if (isSingle()) {
                return together;
            }
            int commonW = Math.max(w - spreadX, 0);
            int commonH = Math.max(h - spreadY, 0);
            int common = paper.countSummed(x + spreadX, y + spreadY, commonW, commonH);
            return Math.min(together, common + w * h - commonW * commonH);
        }

        /** No fewer dots are dark in such a box: the same with light for dark. */
        private int leastDark(int x, int y, int w, int h) {
            int together = paper.countSummed(x, y, w + spreadX, h + spreadY);
            if (isSingle()) {
                return together;
            }
            int rest = (w + spreadX) * (h + spreadY) - w * h;
            int common = paper.countSummed(x + spreadX, y + spreadY, w - spreadX, h - spreadY);
            return Math.max(together - rest, common);
        }
    }
}
