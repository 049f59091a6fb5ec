/** The boundary cases of promises 1 to 4 and 6, each sentence of the document by a test of its own. */
final class SheetEdgesTest {
    private static final int LOW = Integer.MIN_VALUE;
    private static final int GREAT = Integer.MAX_VALUE;
    private static final int[] WRONG_LENGTHS = {0, 513, -1, 514, -512, 65_537, LOW, GREAT};

    private SheetEdgesTest() {
    }

    public static void main(String[] args) {
        newObjectsSheet();
        newObjectFoundNothing();
        leastAndGreatestSheets();
        wrongWidths();
        wrongHeights();
        newSheetIsLight();
        newSheetFindsNothing();
        turnWithinItsEnds();
        turnBesideTheSheet();
        turnFarOff();
        turnCountsLightAndDark();
        fillOfLeastAndGreatestLengths();
        wrongFillLengths();
        fillPartlyOff();
        fillWhollyOff();
        fillBeyondTheGreatestInt();
        fillCountsWhatChanged();
        dotsAtTheEnds();
        dotsOffTheSheet();
        Check.end();
    }

    /** Promise 1: "A sheet of 64 times 64 light dots". */
    private static void newObjectsSheet() {
        PlaceFinder f = new PlaceFinder();
        Check.equal("new: the last dot", f.turn(63, 63, -1), 1);
        Check.equal("new: beside the last dot", f.turn(64, 63, -1), 0);
        Check.equal("new: below the last dot", f.turn(63, 64, -1), 0);
        Check.equal("new: turned back", f.turn(63, 63, 1), 1);
        for (int y = 0; y < 64; y++) {
            Check.equal("new: row " + y, f.dots(0, y), 0);
        }
        Check.allLight("new", f, 64, 64);
    }

    /** Promise 1: "nothing is found". */
    private static void newObjectFoundNothing() {
        Check.nothingFound("new", new PlaceFinder());
        PlaceFinder drawn = new PlaceFinder();
        drawn.draw(0, 0, Check.packed(1, 1, 0));
        Check.nothingFound("new, drawn on", drawn);
        Check.equal("NONE", PlaceFinder.NONE, -1);
    }

    /** Terms: "WIDTH times HEIGHT dots, 1 .. 512 each". */
    private static void leastAndGreatestSheets() {
        int[][] sheets = {{1, 1}, {1, 512}, {512, 1}, {512, 512}, {511, 2}, {64, 65}, {65, 64}, {63, 1}};
        PlaceFinder f = new PlaceFinder();
        for (int[] s : sheets) {
            String what = "sheet(" + s[0] + ", " + s[1] + ")";
            f.sheet(s[0], s[1]);
            Check.equal(what + ": the last dot", f.turn(s[0] - 1, s[1] - 1, -1), 1);
            Check.equal(what + ": beside it", f.turn(s[0], s[1] - 1, -1), 0);
            Check.equal(what + ": below it", f.turn(s[0] - 1, s[1], -1), 0);
            Check.equal(what + ": the last dot is dark", f.dots(s[0] - 1, s[1] - 1), 1);
            Check.darkDots(what, f, 1);
            Check.allLight(what, f, s[0], s[1]);
        }
    }

    /** Promise 2: "IllegalArgumentException: width or height is not 1 .. 512". */
    private static void wrongWidths() {
        for (int width : WRONG_LENGTHS) {
            wrongSheet(width, 1);
            wrongSheet(width, 512);
        }
    }

    /** Promise 2: the same, for the height, and for both at once. */
    private static void wrongHeights() {
        for (int height : WRONG_LENGTHS) {
            wrongSheet(1, height);
            wrongSheet(512, height);
            wrongSheet(height, height);
        }
    }

    private static void wrongSheet(int width, int height) {
        PlaceFinder f = new PlaceFinder();
        f.turn(63, 63, 1);
        String what = "sheet(" + width + ", " + height + ")";
        Check.illegal(what, () -> {
            f.sheet(width, height);
            return 0;
        });
        Check.darkDots(what, f, 1);
        Check.allLight(what + ": the old sheet", f, 64, 64);
    }

    /** Promise 2: "A new sheet, light all over", of any size after any other. */
    private static void newSheetIsLight() {
        int[][] sheets = {{512, 512}, {512, 512}, {1, 1}, {512, 512}, {70, 3}, {3, 70}, {64, 64}, {130, 512}};
        PlaceFinder f = new PlaceFinder();
        f.fill(0, 0, 512, 512, true);
        for (int[] s : sheets) {
            String what = "sheet(" + s[0] + ", " + s[1] + ")";
            f.sheet(s[0], s[1]);
            Check.equal(what + ": the first dots", f.dots(0, 0), 0);
            Check.equal(what + ": the last dot", f.dots(s[0] - 1, s[1] - 1), 0);
            Check.allLight(what, f, s[0], s[1]);
        }
    }

    /** Promise 2: "nothing is found", and what stood on the old sheet is not found on the new one. */
    private static void newSheetFindsNothing() {
        int[][] sheets = {{64, 64}, {21, 21}, {1, 1}, {512, 512}};
        for (int[] s : sheets) {
            String what = "sheet(" + s[0] + ", " + s[1] + ")";
            PlaceFinder f = new PlaceFinder();
            f.draw(0, 0, Check.packed(1, 1, 0));
            Check.equal(what + ": found before", f.find(1, 16, 0), 1);
            f.sheet(s[0], s[1]);
            Check.nothingFound(what, f);
            Check.equal(what + ": find", f.find(1, 16, 0), 0);
            Check.nothingFound(what + " and find", f);
        }
    }

    /** Promise 3: "the bits of a long, the lowest first", at both ends of the bits and of a row. */
    private static void turnWithinItsEnds() {
        PlaceFinder f = new PlaceFinder();
        f.sheet(512, 2);
        Check.equal("the lowest bit", f.turn(0, 0, 1), 1);
        Check.equal("the lowest bit's dot", f.dots(0, 0), 1);
        Check.equal("the highest bit", f.turn(448, 1, Long.MIN_VALUE), 1);
        Check.equal("the highest bit's dot", f.dots(511, 1), 1);
        Check.equal("no bits", f.turn(0, 0, 0), 0);
        for (int x = 0; x + 64 <= 512; x += 7) {
            f.sheet(512, 2);
            Check.equal("64 bits from " + x + " on", f.turn(x, 1, -1), 64);
            Check.equal("their dots", f.dots(x, 1), -1);
            Check.darkDots("64 bits from " + x + " on", f, 64);
        }
    }

    /** Promise 3: "how many of them lie on the sheet", where some lie beside it. */
    private static void turnBesideTheSheet() {
        int[] widths = {1, 63, 64, 65, 70, 128, 511, 512};
        for (int width : widths) {
            PlaceFinder f = new PlaceFinder();
            f.sheet(width, 3);
            turnAt(f, width, width - 1);
            turnAt(f, width, width - 5);
            turnAt(f, width, width - 63);
            turnAt(f, width, width - 64);
            turnAt(f, width, width);
            turnAt(f, width, -1);
            turnAt(f, width, -5);
            turnAt(f, width, -63);
            turnAt(f, width, -64);
        }
    }

    private static void turnAt(PlaceFinder f, int width, int x) {
        String what = "turn at " + x + " of " + width;
        long bits = 0x9E3779B97F4A7C15L;
        int due = 0;
        long dueDots = 0;
        for (int bit = 0; bit < 64; bit++) {
            if ((bits >>> bit & 1) != 0 && x + bit >= 0 && x + bit < width) {
                due++;
                dueDots |= 1L << bit;
            }
        }
        Check.equal(what, f.turn(x, 1, bits), due);
        Check.equal(what + ": dots", f.dots(x, 1), dueDots);
        Check.equal(what + ": dots above", f.dots(0, 0), 0);
        Check.equal(what + ": dots below", f.dots(0, 2), 0);
        Check.darkDots(what, f, due);
    }

    /** Promise 3: the same, where all lie off the sheet, on any side of it and far beyond it. */
    private static void turnFarOff() {
        int[] offs = {512, 513, 576, 1024, 4096, 65_536, GREAT - 512, GREAT - 63, GREAT - 1, GREAT, -64, -65, -512, -65_536, LOW, LOW + 63};
        int[] rows = {-1, -2, -512, LOW, 100, 101, 511, 512, 65_536, GREAT};
        PlaceFinder f = new PlaceFinder();
        f.sheet(512, 100);
        for (int x : offs) {
            Check.equal("turn at x " + x, f.turn(x, 0, -1) + f.turn(x, 50, -1) + f.turn(x, 99, -1), 0);
        }
        for (int y : rows) {
            Check.equal("turn at y " + y, f.turn(0, y, -1) + f.turn(448, y, -1) + f.turn(-5, y, -1), 0);
        }
        Check.equal("turn far off both ways", f.turn(GREAT, GREAT, -1) + f.turn(LOW, LOW, -1), 0);
        Check.allLight("turn far off", f, 512, 100);
    }

    /** Promise 3: dots "become the other of light and dark": light ones too. */
    private static void turnCountsLightAndDark() {
        PlaceFinder f = new PlaceFinder();
        f.fill(0, 0, 64, 64, true);
        Check.equal("turn dark ones", f.turn(60, 63, 0b11111), 4);
        Check.equal("their dots", f.dots(0, 63), -1L >>> 4);
        Check.darkDots("turn dark ones", f, 64 * 64 - 4);
    }

    /** Promise 4: w and h "1 .. 512" at their ends. */
    private static void fillOfLeastAndGreatestLengths() {
        PlaceFinder f = new PlaceFinder();
        f.sheet(512, 512);
        Check.equal("1 times 1", f.fill(511, 511, 1, 1, true), 1);
        Check.equal("its dot", f.dots(511, 511), 1);
        Check.equal("512 times 1", f.fill(0, 0, 512, 1, true), 512);
        Check.equal("1 times 512", f.fill(0, 0, 1, 512, true), 511);
        Check.equal("512 times 512", f.fill(0, 0, 512, 512, true), 512 * 512 - 512 - 511 - 1);
        Check.darkDots("512 times 512", f, 512 * 512);
    }

    /** Promise 4: "IllegalArgumentException: w or h is not 1 .. 512", also off the sheet. */
    private static void wrongFillLengths() {
        PlaceFinder f = new PlaceFinder();
        for (int length : WRONG_LENGTHS) {
            wrongFill(f, 5, 5, length, 1);
            wrongFill(f, 5, 5, 1, length);
            wrongFill(f, 5, 5, length, length);
            wrongFill(f, GREAT, LOW, length, 512);
            wrongFill(f, -600, 600, 512, length);
        }
        Check.allLight("fill refused", f, 64, 64);
        for (int length : WRONG_LENGTHS) {
            Check.illegal("fill light " + length, () -> f.fill(5, 5, length, 1, false));
        }
        Check.darkDots("fill refused", f, 64 * 64);
    }

    private static void wrongFill(PlaceFinder f, int x, int y, int w, int h) {
        Check.illegal("fill(" + x + ", " + y + ", " + w + ", " + h + ")", () -> f.fill(x, y, w, h, true));
    }

    /** Promise 4: "The dots ... that lie on the sheet become dark", where some lie off it. */
    private static void fillPartlyOff() {
        filled(-1, 10, 2, 3, 0, 10, 1, 3);
        filled(-511, 10, 512, 3, 0, 10, 1, 3);
        filled(99, 10, 2, 3, 99, 10, 1, 3);
        filled(99, 10, 512, 3, 99, 10, 1, 3);
        filled(10, -1, 3, 2, 10, 0, 3, 1);
        filled(10, -511, 3, 512, 10, 0, 3, 1);
        filled(10, 89, 3, 2, 10, 89, 3, 1);
        filled(10, 89, 3, 512, 10, 89, 3, 1);
        filled(-10, -10, 12, 13, 0, 0, 2, 3);
        filled(98, 87, 512, 512, 98, 87, 2, 3);
        filled(-200, -200, 512, 512, 0, 0, 100, 90);
        filled(-70, 30, 511, 1, 0, 30, 100, 1);
    }

    /** The first four numbers are the call's, the others what becomes dark of 100 times 90 dots. */
    private static void filled(int... a) {
        PlaceFinder f = new PlaceFinder();
        f.sheet(100, 90);
        String what = "fill(" + a[0] + ", " + a[1] + ", " + a[2] + ", " + a[3] + ")";
        Check.equal(what, f.fill(a[0], a[1], a[2], a[3], true), a[6] * a[7]);
        Check.equal(what + ": what is dark", f.fill(a[4], a[5], a[6], a[7], false), a[6] * a[7]);
        Check.allLight(what + ": the rest", f, 100, 90);
        Check.equal(what + " light", f.fill(a[0], a[1], a[2], a[3], false), a[6] * a[7]);
        Check.darkDots(what + " light", f, 100 * 90 - a[6] * a[7]);
    }

    /** Promise 4: the same, where all lie off the sheet. */
    private static void fillWhollyOff() {
        int[][] places = {{100, 0}, {0, 90}, {-5, 0}, {0, -5}, {-512, 0}, {0, -512}, {600, 600}, {-65_536, 0}, {0, 65_536}, {LOW, 0}, {0, LOW}, {LOW, LOW}};
        PlaceFinder f = new PlaceFinder();
        f.sheet(100, 90);
        for (int[] p : places) {
            Check.equal("fill at " + p[0] + ", " + p[1], f.fill(p[0], p[1], 5, 5, true), 0);
        }
        Check.equal("just left of it", f.fill(-512, 0, 512, 512, true), 0);
        Check.equal("just above it", f.fill(0, -512, 512, 512, true), 0);
        Check.allLight("fill off the sheet", f, 100, 90);
    }

    /** Promise 4: the same, where x + w - 1 or y + h - 1 goes beyond the greatest int. */
    private static void fillBeyondTheGreatestInt() {
        int[] starts = {GREAT, GREAT - 1, GREAT - 4, GREAT - 510, GREAT - 511, GREAT - 512};
        PlaceFinder f = new PlaceFinder();
        f.sheet(512, 512);
        for (int start : starts) {
            Check.equal("fill from x " + start, f.fill(start, 0, 512, 512, true) + f.fill(start, 5, 5, 5, true), 0);
            Check.equal("fill from y " + start, f.fill(0, start, 512, 512, true) + f.fill(5, start, 5, 5, true), 0);
            Check.equal("fill from x, y " + start, f.fill(start, start, 512, 512, true), 0);
        }
        Check.allLight("fill beyond the greatest int", f, 512, 512);
    }

    /** Promise 4: "Answers how many changed": none, some or all of them. */
    private static void fillCountsWhatChanged() {
        PlaceFinder f = new PlaceFinder();
        f.turn(10, 10, 0b101);
        Check.equal("light ones become light", f.fill(20, 20, 5, 5, false), 0);
        Check.equal("some become light", f.fill(10, 10, 2, 1, false), 1);
        Check.equal("some become dark", f.fill(10, 10, 3, 2, true), 5);
        Check.equal("dark ones become dark", f.fill(10, 10, 3, 2, true), 0);
        Check.darkDots("fill", f, 6);
    }

    /** Promise 6: "the first one the lowest", at both ends of a row. */
    private static void dotsAtTheEnds() {
        int[] widths = {1, 63, 64, 65, 130, 511, 512};
        for (int width : widths) {
            PlaceFinder f = new PlaceFinder();
            f.sheet(width, 3);
            f.fill(0, 1, width, 1, true);
            int[] starts = {-64, -63, -5, -1, 0, 1, width - 64, width - 63, width - 5, width - 1, width, width + 1};
            for (int x : starts) {
                long due = 0;
                for (int bit = 0; bit < 64; bit++) {
                    due |= x + bit >= 0 && x + bit < width ? 1L << bit : 0;
                }
                Check.equal("dots from " + x + " of " + width, f.dots(x, 1), due);
            }
        }
    }

    /** Promise 6: "0 for those that lie not on the sheet". */
    private static void dotsOffTheSheet() {
        int[] sides = {1, 64, 100, 512};
        int[] offs = {-1, -64, -65, -512, -65_536, LOW, LOW + 1, LOW + 63, GREAT, GREAT - 1, GREAT - 62, GREAT - 63, GREAT - 64, 512, 513, 4096, 65_536};
        for (int side : sides) {
            PlaceFinder f = new PlaceFinder();
            f.sheet(512, 512);
            f.fill(0, 0, 512, 512, true);
            f.sheet(side, side);
            f.fill(0, 0, 512, 512, true);
            for (int off : offs) {
                Check.equal("dots of row " + off, f.dots(0, off) | f.dots(-3, off) | f.dots(side - 1, off), 0);
                if (off > -1 || off < -63) {
                    Check.equal("dots from " + off, f.dots(off, 0) | f.dots(off, side - 1), 0);
                }
            }
            Check.equal("dots below " + side, f.dots(0, side), 0);
            Check.equal("dots beside " + side, f.dots(side, 0), 0);
        }
    }
}
