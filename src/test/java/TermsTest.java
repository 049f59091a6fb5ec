/** The boundary cases of the document's terms, each sentence by a test of its own. */
final class TermsTest {
    private TermsTest() {
    }

    public static void main(String[] args) {
        directions();
        leastAndGreatestVersion();
        leastAndGreatestModule();
        everyModuleOfASymbol();
        onlyModulesWithinTheSymbol();
        firstAndLastPlaces();
        notBeyondTheSheet();
        canStand();
        canStandWhereverWrong();
        canStandByOneGoodCorner();
        greatestLimit();
        fewerWrongDotsLead();
        asManyAndBeforeItByY();
        asManyAndBeforeItByX();
        asManyAndBeforeItByModule();
        asManyAndBeforeItByVersion();
        asManyAndBeforeItByQuarter();
        yGoesBeforeX();
        xGoesBeforeModule();
        moduleGoesBeforeVersion();
        versionGoesBeforeQuarter();
        touching(true, true);
        touching(true, false);
        touching(false, true);
        touching(false, false);
        oneCommonDot(true);
        oneCommonDot(false);
        beatenByOneThatDoesNotLead();
        lastCallOfAll();
        Check.end();
    }

    /** A symbol of any size, also of such as there are not, on a light sheet. */
    private static void drawByHand(PlaceFinder f, int x, int y, int m, int size) {
        int far = (size - 7) * m;
        int[][] corners = {{x, y}, {x + far, y}, {x, y + far}};
        for (int[] c : corners) {
            f.fill(c[0], c[1], 7 * m, 7 * m, true);
            f.fill(c[0] + m, c[1] + m, 5 * m, 5 * m, false);
            f.fill(c[0] + 2 * m, c[1] + 2 * m, 3 * m, 3 * m, true);
        }
        for (int i = 8; i <= size - 9; i += 2) {
            f.fill(x + i * m, y + 6 * m, m, m, true);
            f.fill(x + 6 * m, y + i * m, m, m, true);
        }
        f.fill(x + 8 * m, y + (size - 8) * m, m, m, true);
    }

    /** "(0, 0) at the left and above, x to the right, y downwards". */
    private static void directions() {
        PlaceFinder f = new PlaceFinder();
        f.draw(3, 30, Check.packed(1, 1, 0));
        Check.equal("row 29", f.dots(0, 29), 0);
        Check.equal("row 30", f.dots(0, 30), 0b1111111_0000000_1111111_000L);
        Check.equal("row 50", f.dots(0, 50), 0b1111111_000L);
        Check.equal("row 51", f.dots(0, 51), 0);
    }

    /** "version v, 1 .. 40": those of S = 17 and of S = 181 are none. */
    private static void leastAndGreatestVersion() {
        for (int v = 0; v <= 41; v += v == 0 || v == 40 ? 1 : 39) {
            for (int m = 1; m <= 2; m++) {
                PlaceFinder f = new PlaceFinder();
                f.sheet(400, 400);
                String what = "m " + m + " v " + v;
                drawByHand(f, 20, 30, m, 17 + 4 * v);
                boolean isOne = v >= 1 && v <= 40;
                Check.equal(what, f.find(1, 16, 0), isOne ? 1 : 0);
                Check.equal(what + ": its version", f.place(0, 3), isOne ? v : PlaceFinder.NONE);
            }
        }
    }

    /** "a module size m, 1 .. 16": a symbol with one of 17 is none. */
    private static void leastAndGreatestModule() {
        int[] modules = {1, 15, 16, 17};
        for (int m : modules) {
            PlaceFinder f = new PlaceFinder();
            f.sheet(512, 512);
            drawByHand(f, 100, 90, m, 21);
            Check.equal("module " + m, f.find(1, 16, 0), m <= 16 ? 1 : 0);
            Check.equal("module " + m + ": m", f.place(0, 2), m <= 16 ? m : PlaceFinder.NONE);
        }
    }

    /** "Its FIXED modules": each of these with a wrong dot counts one, and no other one does. */
    private static void everyModuleOfASymbol() {
        for (int q = 0; q < 4; q++) {
            int place = Check.packed(1, 2, q);
            PlainFinder plain = new PlainFinder();
            plain.sheet(25, 25);
            plain.draw(0, 0, place);
            for (int y = 0; y < 25; y++) {
                PlaceFinder f = plain.copied();
                for (int x = 0; x < 25; x++) {
                    String what = "q " + q + " with dot " + x + ", " + y;
                    plain.turn(x, y, 1);
                    f.turn(x, y, 1);
                    int due = plain.wrongDots(0, 0, place);
                    Check.equal(what + ": find without a wrong one", f.find(1, 1, 0), 1 - due);
                    Check.equal(what + ": find", f.find(1, 1, 1), 1);
                    Check.placeIs(what, f, 0, 0, 0, 1, 2, q, due);
                    plain.turn(x, y, 1);
                    f.turn(x, y, 1);
                }
            }
        }
    }

    /** "within the symbol": what lies around it is never drawn and never wrong. */
    private static void onlyModulesWithinTheSymbol() {
        for (int q = 0; q < 4; q++) {
            PlaceFinder f = new PlaceFinder();
            f.fill(0, 0, 64, 64, true);
            f.draw(5, 7, Check.packed(2, 1, q));
            Check.equal("above it", f.dots(0, 6), -1);
            Check.equal("below it", f.dots(0, 49), -1);
            Check.equal("left of it", f.fill(4, 0, 1, 64, true), 0);
            Check.equal("right of it", f.fill(47, 0, 1, 64, true), 0);
            Check.equal("on dark: find", f.find(1, 2, 0), 1);
            Check.placeIs("on dark", f, 0, 5, 7, 2, 1, q, 0);
        }
    }

    /** "all dots ... lie on the sheet": places in all corners of the sheet are found. */
    private static void firstAndLastPlaces() {
        int[][] shapes = {{1, 1}, {1, 40}, {2, 40}, {16, 3}, {5, 5}};
        for (int[] s : shapes) {
            int length = s[0] * (17 + 4 * s[1]);
            for (int corner = 0; corner < 4; corner++) {
                int x = corner % 2 == 0 ? 0 : 512 - length;
                int y = corner < 2 ? 0 : 500 - length;
                PlaceFinder f = new PlaceFinder();
                f.sheet(512, 500);
                f.draw(x, y, Check.packed(s[0], s[1], corner));
                String what = "m " + s[0] + " v " + s[1] + " at " + x + ", " + y;
                Check.equal(what, f.find(1, 16, 0), 1);
                Check.placeIs(what, f, 0, x, y, s[0], s[1], corner, 0);
            }
            PlaceFinder f = new PlaceFinder();
            f.sheet(length, length);
            f.draw(0, 0, Check.packed(s[0], s[1], 2));
            Check.equal("on a sheet as great as it", f.find(1, 16, 0), 1);
            Check.placeIs("on a sheet as great as it", f, 0, 0, 0, s[0], s[1], 2, 0);
        }
    }

    /** "all dots ... lie on the sheet": where one row or column lies off it, there is no place. */
    private static void notBeyondTheSheet() {
        for (int m = 1; m <= 2; m++) {
            int length = 21 * m;
            int[][] cuts = {{-1, 10}, {10, -1}, {101 - length, 10}, {10, 91 - length}};
            for (int[] cut : cuts) {
                PlaceFinder f = new PlaceFinder();
                f.sheet(100, 90);
                drawByHand(f, cut[0], cut[1], m, 21);
                Check.equal("cut at " + cut[0] + ", " + cut[1] + " with m " + m, f.find(1, 16, length), 0);
            }
        }
        PlaceFinder f = new PlaceFinder();
        int[][] sheets = {{20, 512}, {512, 20}, {20, 20}, {1, 1}, {1, 512}};
        for (int[] s : sheets) {
            f.sheet(s[0], s[1]);
            Check.equal("on " + s[0] + " times " + s[1], f.find(1, 16, 500), 0);
        }
    }

    /** "a symbol CAN STAND at a place with no more" wrong dots than the limit: as many, and one more. */
    private static void canStand() {
        PlaceFinder f = new PlaceFinder();
        f.sheet(21, 21);
        f.draw(0, 0, Check.packed(1, 1, 0));
        for (int wrong = 0; wrong <= 40; wrong++) {
            Check.equal("as many as the limit " + wrong, f.find(1, 1, wrong), 1);
            Check.placeIs("as many as the limit " + wrong, f, 0, 0, 0, 1, 1, 0, wrong);
            Check.equal("one more than the limit", wrong == 0 ? 0 : f.find(1, 1, wrong - 1), 0);
            f.turn(wrong % 7, wrong / 7, 1);
        }
    }

    /** The same, whichever corner or line of the symbol has them. */
    private static void canStandWhereverWrong() {
        int[][] shares = {
            {60, 0, 0, 0}, {0, 60, 0, 0}, {0, 0, 60, 0}, {0, 0, 0, 60}, {20, 20, 20, 0}, {21, 20, 19, 0}, {19, 20, 21, 0},
            {20, 21, 19, 0}, {30, 30, 0, 0}, {0, 30, 30, 0}, {30, 0, 30, 0}, {15, 15, 15, 15}, {1, 1, 1, 57},
        };
        for (int[] share : shares) {
            for (int q = 0; q < 4; q++) {
                standsWith(2, 5, q, share);
            }
        }
    }

    /** The same on light sheets, where three corners of the four are darker than they should be. */
    private static void canStandByOneGoodCorner() {
        for (int good = 0; good < 4; good++) {
            for (int width = 21; width <= 24; width++) {
                for (int height = 21; height <= 24; height++) {
                    for (int limit = 118; limit <= 125; limit++) {
                        byOneGoodCorner(good, width, height, limit);
                    }
                }
            }
        }
    }

    private static void byOneGoodCorner(int good, int width, int height, int limit) {
        int[][] corners = {{0, 0}, {14, 0}, {14, 14}, {0, 14}};
        PlainFinder plain = new PlainFinder();
        plain.sheet(width, height);
        for (int corner = 0; corner < 4; corner++) {
            if (corner != good) {
                plain.turn(corners[corner][0] + 1, corners[corner][1] + 1, 0b11111);
                plain.turn(corners[corner][0] + 1, corners[corner][1] + 5, 0b111);
            }
        }
        PlaceFinder f = plain.copied();
        String what = "good is " + good + " of " + width + " times " + height + " with " + limit;
        Check.equal(what + ": find", f.find(1, 16, limit), plain.find(1, 16, limit));
        Check.equal(what + ": stood", f.stood(), plain.stood());
        for (int number = 0; number < 6; number++) {
            Check.equal(what + ": place(0, " + number + ")", f.place(0, number), plain.place(0, number));
        }
    }

    /** The same with the greatest limit of all: 500 wrong dots, and 501. */
    private static void greatestLimit() {
        int[][] shares = {{500, 0, 0, 0}, {0, 0, 500, 0}, {0, 0, 0, 500}, {167, 167, 166, 0}, {166, 167, 167, 0}, {125, 125, 125, 125}};
        for (int[] share : shares) {
            for (int q = 0; q < 4; q++) {
                standsWith(5, 3, q, share);
            }
        }
    }

    /** Each share is how many dots are wrong in one of the three corners, the last one in the rest. */
    private static void standsWith(int m, int v, int q, int[] share) {
        PlainFinder plain = new PlainFinder();
        int length = m * (17 + 4 * v);
        plain.sheet(length + 9, length + 7);
        int place = Check.packed(m, v, q);
        plain.draw(6, 5, place);
        int far = length - 8 * m;
        int[][] corners = {{6, 5}, {6 + far, 5}, {6 + far, 5 + far}, {6, 5 + far}};
        for (int c = 0; c < 3; c++) {
            int[] at = corners[q + c + 3 & 3];
            spoil(plain, place, share[c], at[0], at[1], 8 * m, 8 * m);
        }
        int rest = share[3] - spoil(plain, place, share[3] / 2, 6 + 8 * m, 5, length - 16 * m, length);
        spoil(plain, place, rest, 6, 5 + 8 * m, length, length - 16 * m);
        int wrong = share[0] + share[1] + share[2] + share[3];
        String what = "m " + m + " q " + q + " with " + share[0] + ", " + share[1] + ", " + share[2] + ", " + share[3] + " wrong";
        Check.equal(what, plain.wrongDots(6, 5, place), wrong);
        PlaceFinder f = plain.copied();
        Check.equal(what + ": as many as the limit", f.find(m, m, wrong), 1);
        Check.equal(what + ": stood", f.stood(), 1);
        Check.placeIs(what, f, 0, 6, 5, m, v, q, wrong);
        Check.equal(what + ": one more than the limit", f.find(m, m, wrong - 1), 0);
        spoil(plain, place, 1, 6, 5, length, length);
        Check.equal(what + ": and one more", plain.copied().find(m, m, wrong), 0);
    }

    /** Turns up to so many dots in a rectangle that become wrong by it; answers how many. */
    private static int spoil(PlainFinder plain, int place, int count, int left, int top, int w, int h) {
        int before = plain.wrongDots(6, 5, place);
        int done = 0;
        for (int dot = 0; dot < w * h && done < count; dot++) {
            plain.turn(left + dot % w, top + dot / w, 1);
            if (plain.wrongDots(6, 5, place) == before + done + 1) {
                done++;
            } else {
                plain.turn(left + dot % w, top + dot / w, 1);
            }
        }
        return done;
    }

    /** "no other of these that has a dot in common with it has fewer wrong dots". */
    private static void fewerWrongDotsLead() {
        int[][] later = {{12, 9, 1, 1, 0}, {13, 5, 1, 1, 0}, {9, 5, 2, 1, 0}, {9, 5, 1, 2, 0}, {9, 5, 1, 1, 3}};
        int[] first = {9, 5, 1, 1, 0};
        for (int[] second : later) {
            leadOf("the first has fewer", first, second, 1);
            leadOf("the second has fewer", first, second, -1);
        }
    }

    /** "or as many and comes before it", with "Places are in ORDER by y, then x, then m, then v, then q". */
    private static void asManyAndBeforeItByY() {
        leadOf("as many, y", new int[] {9, 5, 1, 1, 0}, new int[] {9, 12, 1, 1, 0}, 0);
    }

    private static void asManyAndBeforeItByX() {
        leadOf("as many, x", new int[] {9, 5, 1, 1, 2}, new int[] {13, 5, 1, 1, 2}, 0);
    }

    private static void asManyAndBeforeItByModule() {
        leadOf("as many, m", new int[] {9, 5, 1, 1, 0}, new int[] {9, 5, 2, 1, 0}, 0);
    }

    private static void asManyAndBeforeItByVersion() {
        leadOf("as many, v", new int[] {9, 5, 1, 1, 1}, new int[] {9, 5, 1, 2, 1}, 0);
    }

    private static void asManyAndBeforeItByQuarter() {
        leadOf("as many, q 0 and 1", new int[] {9, 5, 1, 1, 0}, new int[] {9, 5, 1, 1, 1}, 0);
        leadOf("as many, q 2 and 3", new int[] {9, 5, 1, 1, 2}, new int[] {9, 5, 1, 1, 3}, 0);
        leadOf("as many, q 0 and 3", new int[] {9, 5, 1, 1, 0}, new int[] {9, 5, 1, 1, 3}, 0);
    }

    private static void yGoesBeforeX() {
        leadOf("y before x", new int[] {20, 5, 2, 1, 3}, new int[] {10, 9, 1, 1, 0}, 0);
    }

    private static void xGoesBeforeModule() {
        leadOf("x before m", new int[] {9, 5, 2, 1, 3}, new int[] {13, 5, 1, 1, 0}, 0);
    }

    private static void moduleGoesBeforeVersion() {
        leadOf("m before v", new int[] {9, 5, 1, 3, 3}, new int[] {9, 5, 2, 1, 0}, 0);
    }

    private static void versionGoesBeforeQuarter() {
        leadOf("v before q", new int[] {9, 5, 1, 1, 3}, new int[] {9, 5, 1, 2, 0}, 0);
    }

    /**
     * Two places, x, y, m, v and q each, of which the first one comes first: drawn on one sheet
     * such that they have as many wrong dots, or the first one so many fewer than the other.
     */
    private static void leadOf(String what, int[] first, int[] second, int fewer) {
        PlainFinder plain = new PlainFinder();
        int firstPlace = Check.packed(first[2], first[3], first[4]);
        int secondPlace = Check.packed(second[2], second[3], second[4]);
        plain.draw(first[0], first[1], firstPlace);
        plain.draw(second[0], second[1], secondPlace);
        int firstWrong = plain.wrongDots(first[0], first[1], firstPlace);
        int secondWrong = plain.wrongDots(second[0], second[1], secondPlace);
        for (int dot = 0; dot < 64 * 64 && firstWrong + fewer != secondWrong; dot++) {
            plain.turn(dot % 64, dot / 64, 1);
            int newFirst = plain.wrongDots(first[0], first[1], firstPlace);
            int newSecond = plain.wrongDots(second[0], second[1], secondPlace);
            if (Math.abs(newFirst + fewer - newSecond) < Math.abs(firstWrong + fewer - secondWrong)) {
                firstWrong = newFirst;
                secondWrong = newSecond;
            } else {
                plain.turn(dot % 64, dot / 64, 1);
            }
        }
        Check.equal(what + ": the test's sheet", firstWrong + fewer, secondWrong);
        PlaceFinder f = plain.copied();
        Check.equal(what + ": find", f.find(1, 2, Math.max(firstWrong, secondWrong)), 1);
        Check.equal(what + ": stood", f.stood(), 2);
        int[] lead = fewer >= 0 ? first : second;
        Check.placeIs(what, f, 0, lead[0], lead[1], lead[2], lead[3], lead[4], Math.min(firstWrong, secondWrong));
    }

    /** "that has a dot in common with it": two that touch have none, whichever is the better one. */
    private static void touching(boolean beside, boolean firstIsWorse) {
        PlaceFinder f = new PlaceFinder();
        int x = beside ? 21 : 0;
        int y = beside ? 0 : 21;
        f.draw(0, 0, Check.packed(1, 1, 0));
        f.draw(x, y, Check.packed(1, 1, 0));
        f.turn(firstIsWorse ? 0 : x, firstIsWorse ? 0 : y, 1);
        Check.equal("touching: find", f.find(1, 1, 1), 2);
        Check.placeIs("touching", f, 0, 0, 0, 1, 1, 0, firstIsWorse ? 1 : 0);
        Check.placeIs("touching", f, 1, x, y, 1, 1, 0, firstIsWorse ? 0 : 1);
    }

    /** The same: two that have but one dot in common, which is free in one of them. */
    private static void oneCommonDot(boolean firstIsWorse) {
        PlaceFinder f = new PlaceFinder();
        f.draw(0, 0, Check.packed(1, 1, 0));
        f.draw(20, 20, Check.packed(1, 1, 0));
        f.turn(firstIsWorse ? 0 : 40, firstIsWorse ? 0 : 20, 1);
        Check.equal("one common dot: find", f.find(1, 1, 1), 1);
        Check.equal("one common dot: stood", f.stood(), 2);
        int at = firstIsWorse ? 20 : 0;
        Check.placeIs("one common dot", f, 0, at, at, 1, 1, 0, 0);
    }

    /** "no other of these": also one that does not lead itself keeps another from leading. */
    private static void beatenByOneThatDoesNotLead() {
        PlainFinder plain = new PlainFinder();
        plain.sheet(51, 51);
        plain.draw(0, 0, Check.packed(1, 1, 2));
        plain.draw(30, 30, Check.packed(1, 1, 0));
        plain.draw(15, 15, Check.packed(1, 1, 0));
        for (int limit = 0; limit < 90; limit++) {
            PlaceFinder f = plain.copied();
            Check.equal("chain: find " + limit, f.find(1, 1, limit), plain.find(1, 1, limit));
            Check.equal("chain: stood " + limit, f.stood(), plain.stood());
            for (int k = 0; k < 5; k++) {
                for (int what = 0; what < 6; what++) {
                    Check.equal("chain: place " + limit, f.place(k, what), plain.place(k, what));
                }
            }
        }
    }

    /** "An object is used for at most 512 calls": all of these are answered as due. */
    private static void lastCallOfAll() {
        PlaceFinder f = new PlaceFinder();
        f.draw(40, 41, Check.packed(1, 1, 3));
        for (int call = 2; call <= 510; call += 3) {
            Check.equal("turn is call " + call, f.turn(40, 41, 1), 1);
            Check.equal("find is call " + (call + 1), f.find(1, 16, call % 2), call % 2);
            Check.equal("turn is call " + (call + 2), f.turn(40, 41, 1), 1);
        }
        Check.equal("the 512th call", f.find(1, 16, 0), 1);
    }
}
