/** The boundary cases of promise 5, each sentence of the document by a test of its own. */
final class DrawEdgesTest {
    private static final int LOW = Integer.MIN_VALUE;
    private static final int GREAT = Integer.MAX_VALUE;

    private DrawEdgesTest() {
    }

    public static void main(String[] args) {
        otherBits();
        wrongModules();
        wrongVersions();
        leastAndGreatest();
        everyQuarter();
        lastPlaces();
        noPlaceOnTheSheet();
        noPlaceFarOff();
        tooGreatForTheSheet();
        severalFaults();
        wrongBefore();
        Check.end();
    }

    private static PlaceFinder greatSheet() {
        PlaceFinder f = new PlaceFinder();
        f.sheet(512, 512);
        return f;
    }

    private static void refused(PlaceFinder f, int x, int y, int place) {
        String what = "draw(" + x + ", " + y + ", m " + (place >> 8 & 31) + " v " + (place >> 2 & 63) + " of " + place + ")";
        Check.illegal(what, () -> f.draw(x, y, place));
    }

    /** "nothing above these": each bit above the 13 of q, v and m. */
    private static void otherBits() {
        PlaceFinder f = greatSheet();
        for (int bit = 13; bit < 32; bit++) {
            refused(f, 0, 0, 1 << bit | Check.packed(1, 1, 0));
            refused(f, 0, 0, -1 << bit | Check.packed(16, 1, 3));
        }
        refused(f, 0, 0, -1);
        refused(f, 0, 0, LOW);
        refused(f, 0, 0, GREAT);
        Check.allLight("other bits", f, 512, 512);
    }

    /** "m is not 1 .. 16": all others that five bits hold. */
    private static void wrongModules() {
        PlaceFinder f = greatSheet();
        refused(f, 0, 0, Check.packed(0, 1, 0));
        refused(f, 0, 0, Check.packed(0, 40, 3));
        for (int m = 17; m <= 31; m++) {
            refused(f, 0, 0, Check.packed(m, 1, m % 4));
        }
        Check.allLight("wrong m", f, 512, 512);
    }

    /** "v not 1 .. 40": all others that six bits hold. */
    private static void wrongVersions() {
        PlaceFinder f = greatSheet();
        refused(f, 0, 0, Check.packed(1, 0, 0));
        refused(f, 0, 0, Check.packed(16, 0, 1));
        for (int v = 41; v <= 63; v++) {
            refused(f, 0, 0, Check.packed(1, v, v % 4));
        }
        Check.allLight("wrong v", f, 512, 512);
    }

    /** The same at their ends, where a place may be: dark modules are 33 a corner, the line's and one. */
    private static void leastAndGreatest() {
        PlaceFinder f = greatSheet();
        Check.equal("m 1 v 1", f.draw(0, 0, Check.packed(1, 1, 0)), 3 * 33 + 2 * 3 + 1);
        Check.darkDots("m 1 v 1", f, 106);
        Check.equal("m 16 v 1", f.draw(0, 0, Check.packed(16, 1, 0)), 256 * 106);
        Check.darkDots("m 16 v 1", f, 256 * 106);
        Check.equal("m 1 v 40", f.draw(0, 0, Check.packed(1, 40, 0)), 3 * 33 + 2 * 81 + 1);
        Check.darkDots("m 1 v 40", f, 262);
        Check.equal("m 2 v 40", f.draw(0, 0, Check.packed(2, 40, 0)), 4 * 262);
        Check.darkDots("m 2 v 40", f, 4 * 262);
        Check.equal("m 16 v 3", f.draw(0, 0, Check.packed(16, 3, 0)), 256 * (106 + 2 * 2 * 2));
        Check.darkDots("m 16 v 3", f, 256 * 114);
    }

    /** "q in its two lowest bits": the corner that a quarter leaves out, in its 7 times 7 modules. */
    private static void everyQuarter() {
        int[][] missing = {{14, 14}, {0, 14}, {0, 0}, {14, 0}};
        for (int q = 0; q < 4; q++) {
            PlaceFinder f = new PlaceFinder();
            f.sheet(21, 21);
            f.draw(0, 0, Check.packed(1, 1, q));
            Check.equal("q " + q + ": no corner", f.fill(missing[q][0], missing[q][1], 7, 7, false), 0);
            Check.darkDots("q " + q, f, 106);
        }
    }

    /** "no place on the sheet": the last places on it are some. */
    private static void lastPlaces() {
        int[][] shapes = {{1, 1}, {1, 40}, {2, 40}, {16, 1}, {16, 3}, {12, 6}, {7, 14}};
        for (int[] s : shapes) {
            int length = s[0] * (17 + 4 * s[1]);
            PlaceFinder f = greatSheet();
            int due = f.draw(0, 0, Check.packed(s[0], s[1], 1));
            Check.darkDots("m " + s[0] + " v " + s[1], f, due);
            int last = 512 - length;
            Check.equal("m " + s[0] + " v " + s[1] + " at the end", f.draw(last, last, Check.packed(s[0], s[1], 1)), due);
            Check.equal("its last dots", f.fill(511, last, 1, length, true), length - 14 * s[0]);
            refused(f, last + 1, last, Check.packed(s[0], s[1], 1));
            refused(f, last, last + 1, Check.packed(s[0], s[1], 1));
        }
    }

    /** "no place on the sheet": one dot off it, on each side. */
    private static void noPlaceOnTheSheet() {
        PlaceFinder f = new PlaceFinder();
        f.sheet(50, 45);
        refused(f, -1, 0, Check.packed(1, 1, 0));
        refused(f, 0, -1, Check.packed(1, 1, 0));
        refused(f, 30, 0, Check.packed(1, 1, 0));
        refused(f, 0, 25, Check.packed(1, 1, 0));
        refused(f, 9, 0, Check.packed(2, 1, 0));
        refused(f, 0, 4, Check.packed(2, 1, 0));
        Check.allLight("one dot off", f, 50, 45);
        Check.darkDots("one dot off", f, 50 * 45);
        Check.equal("on the sheet", f.draw(29, 24, Check.packed(1, 1, 0)), 106);
        Check.equal("modules of 2 on the sheet", f.draw(8, 3, Check.packed(2, 1, 3)) > 0 ? 1 : 0, 1);
    }

    /** "no place on the sheet": far off it, also where x + m S - 1 goes beyond the greatest int. */
    private static void noPlaceFarOff() {
        int[] offs = {-20, -21, -22, -336, -512, 492, 511, 512, 65_536, -65_536, LOW, LOW + 20, GREAT, GREAT - 19, GREAT - 20, GREAT - 21, GREAT - 335};
        PlaceFinder f = greatSheet();
        for (int off : offs) {
            refused(f, off, 0, Check.packed(1, 1, 0));
            refused(f, 0, off, Check.packed(1, 1, 0));
            refused(f, off, off, Check.packed(16, 1, 0));
        }
        Check.allLight("far off", f, 512, 512);
    }

    /** "no place on the sheet": the symbol is wider or higher than the sheet is. */
    private static void tooGreatForTheSheet() {
        int[][] shapes = {{16, 4}, {16, 40}, {3, 40}, {13, 6}};
        PlaceFinder f = greatSheet();
        for (int[] s : shapes) {
            refused(f, 0, 0, Check.packed(s[0], s[1], 0));
        }
        int[][] sheets = {{20, 512}, {512, 20}, {1, 1}, {20, 20}};
        for (int[] s : sheets) {
            f.sheet(s[0], s[1]);
            refused(f, 0, 0, Check.packed(1, 1, 0));
            Check.allLight("too great", f, s[0], s[1]);
        }
        f.sheet(21, 21);
        Check.equal("just as great", f.draw(0, 0, Check.packed(1, 1, 0)), 106);
    }

    /** All of these at once are refused by the same exception. */
    private static void severalFaults() {
        PlaceFinder f = new PlaceFinder();
        refused(f, -1, GREAT, LOW | Check.packed(0, 0, 0));
        refused(f, GREAT, -1, 1 << 13 | Check.packed(17, 41, 3));
        refused(f, LOW, LOW, -1);
        refused(f, 65, 65, Check.packed(31, 63, 3));
        Check.allLight("several faults", f, 64, 64);
    }

    /** "Answers how many dots were wrong before": none, one, and all of them. */
    private static void wrongBefore() {
        PlaceFinder f = new PlaceFinder();
        f.sheet(42, 42);
        int place = Check.packed(2, 1, 2);
        Check.equal("on light", f.draw(0, 0, place), 4 * 106);
        Check.equal("none", f.draw(0, 0, place), 0);
        f.turn(41, 41, 1);
        Check.equal("one", f.draw(0, 0, place), 1);
        f.turn(0, 0, 1);
        Check.equal("a free dot is not wrong", f.draw(0, 0, place), 0);
        for (int y = 0; y < 42; y++) {
            f.turn(0, y, -1);
        }
        Check.equal("all", f.draw(0, 0, place), 4 * (106 + 97));
    }
}
