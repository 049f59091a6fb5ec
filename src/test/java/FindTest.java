/** Promises 7 to 9: find, stood and place. */
final class FindTest {
    private FindTest() {
    }

    public static void main(String[] args) {
        everyShape();
        limits();
        moduleRange();
        sheetsThatJustFit();
        overlaps();
        touching(true, true);
        touching(true, false);
        touching(false, true);
        touching(false, false);
        oneCommonDot(true);
        oneCommonDot(false);
        notTheBestOfTheLeading();
        sameWrongDots();
        order();
        tooMany();
        exactlyAsManyAsMayBe();
        foundStays();
        wrongCalls();
        wholeSheets();
        Check.end();
    }

    private static void placeIs(String what, PlaceFinder f, int k, int... due) {
        for (int i = 0; i < due.length; i++) {
            Check.equal(what + ": place(" + k + ", " + i + ")", f.place(k, i), due[i]);
        }
    }

    private static void everyShape() {
        for (int m = 1; m <= 16; m++) {
            for (int v = 1; v <= 40 && m * (17 + 4 * v) <= 500; v++) {
                PlaceFinder f = new PlaceFinder();
                f.sheet(512, 505);
                int q = (m + v) % 4;
                String what = "m " + m + " v " + v + " q " + q;
                int x = (m * 7 + v) % (512 - m * (17 + 4 * v) + 1);
                int y = (m * 5 + v * 3) % (505 - m * (17 + 4 * v) + 1);
                f.draw(x, y, Check.packed(m, v, q));
                Check.equal(what, f.find(1, 16, 0), 1);
                placeIs(what, f, 0, x, y, m, v, q, 0);
            }
        }
    }

    private static void limits() {
        PlaceFinder f = new PlaceFinder();
        f.draw(10, 11, Check.packed(2, 1, 3));
        f.turn(10, 11, 0b11);
        f.turn(10, 12, 1);
        Check.equal("2 of 3 wrong", f.find(1, 3, 2), 0);
        Check.equal("2 of 3 wrong: stood", f.stood(), 0);
        Check.equal("3 of 3 wrong", f.find(1, 3, 3), 1);
        placeIs("3 of 3 wrong", f, 0, 10, 11, 2, 1, 3, 3);
        f.turn(28, 34, 1);
        Check.equal("a free module is never wrong", f.find(1, 3, 3), 1);
    }

    private static void moduleRange() {
        PlaceFinder f = new PlaceFinder();
        f.sheet(100, 100);
        f.draw(3, 2, Check.packed(3, 2, 1));
        Check.equal("1 .. 2", f.find(1, 2, 0), 0);
        Check.equal("4 .. 16", f.find(4, 16, 0), 0);
        Check.equal("3 .. 3", f.find(3, 3, 0), 1);
        Check.equal("1 .. 3", f.find(1, 3, 0), 1);
        Check.equal("3 .. 16", f.find(3, 16, 0), 1);
    }

    private static void sheetsThatJustFit() {
        PlaceFinder f = new PlaceFinder();
        f.sheet(1, 1);
        Check.equal("one dot", f.find(1, 16, 500), 0);
        f.sheet(20, 512);
        Check.equal("too narrow", f.find(1, 16, 500), 0);
        f.sheet(512, 20);
        Check.equal("too low", f.find(1, 16, 500), 0);
        f.sheet(21, 21);
        Check.equal("light", f.find(1, 16, 105), 0);
        Check.equal("light with all wrong", f.find(1, 16, 106), 1);
        Check.equal("light with all wrong: stood", f.stood(), 4);
        placeIs("light with all wrong", f, 0, 0, 0, 1, 1, 0, 106);
    }

    private static void overlaps() {
        PlaceFinder f = new PlaceFinder();
        f.sheet(64, 21);
        f.draw(0, 0, Check.packed(1, 1, 0));
        f.draw(21, 0, Check.packed(1, 1, 2));
        f.draw(43, 0, Check.packed(1, 1, 1));
        Check.equal("side by side", f.find(1, 1, 0), 3);
        placeIs("side by side", f, 0, 0, 0, 1, 1, 0, 0);
        placeIs("side by side", f, 1, 21, 0, 1, 1, 2, 0);
        placeIs("side by side", f, 2, 43, 0, 1, 1, 1, 0);
        Check.equal("none behind", f.place(3, 0), PlaceFinder.NONE);
    }

    /** Two that touch have no dot in common, whichever of them is the better one. */
    private static void touching(boolean beside, boolean firstIsWorse) {
        PlaceFinder f = new PlaceFinder();
        int x = beside ? 21 : 0;
        int y = beside ? 0 : 21;
        f.draw(0, 0, Check.packed(1, 1, 0));
        f.draw(x, y, Check.packed(1, 1, 0));
        f.turn(firstIsWorse ? 0 : x, firstIsWorse ? 0 : y, 1);
        Check.equal("touching: find", f.find(1, 1, 1), 2);
        placeIs("touching", f, 0, 0, 0, 1, 1, 0, firstIsWorse ? 1 : 0);
        placeIs("touching", f, 1, x, y, 1, 1, 0, firstIsWorse ? 0 : 1);
    }

    /** Two that have but one dot in common, which is free in one of them. */
    private static void oneCommonDot(boolean firstIsWorse) {
        PlaceFinder f = new PlaceFinder();
        f.draw(0, 0, Check.packed(1, 1, 0));
        f.draw(20, 20, Check.packed(1, 1, 0));
        f.turn(firstIsWorse ? 0 : 40, firstIsWorse ? 0 : 20, 1);
        Check.equal("one common dot: find", f.find(1, 1, 1), 1);
        Check.equal("one common dot: stood", f.stood(), 2);
        int at = firstIsWorse ? 20 : 0;
        placeIs("one common dot", f, 0, at, at, 1, 1, 0, 0);
    }

    /** The middle one beats the last and is beaten by the first: neither of the two leads. */
    private static void notTheBestOfTheLeading() {
        PlaceFinder f = new PlaceFinder();
        f.sheet(51, 51);
        f.draw(0, 0, Check.packed(1, 1, 2));
        f.draw(30, 30, Check.packed(1, 1, 0));
        f.draw(15, 15, Check.packed(1, 1, 0));
        PlainFinder plain = new PlainFinder();
        plain.sheet(51, 51);
        plain.draw(0, 0, Check.packed(1, 1, 2));
        plain.draw(30, 30, Check.packed(1, 1, 0));
        plain.draw(15, 15, Check.packed(1, 1, 0));
        for (int limit = 0; limit < 90; limit++) {
            Check.equal("chain: find " + limit, f.find(1, 1, limit), plain.find(1, 1, limit));
            Check.equal("chain: stood " + limit, f.stood(), plain.stood());
            for (int k = 0; k < 5; k++) {
                for (int what = 0; what < 6; what++) {
                    Check.equal("chain: place " + limit, f.place(k, what), plain.place(k, what));
                }
            }
        }
    }

    private static void sameWrongDots() {
        PlaceFinder f = new PlaceFinder();
        f.sheet(22, 21);
        Check.equal("as wrong: find", f.find(1, 1, 106), 1);
        Check.equal("as wrong: stood", f.stood(), 8);
        placeIs("as wrong", f, 0, 0, 0, 1, 1, 0, 106);
        f.turn(1, 0, 1);
        Check.equal("one better: find", f.find(1, 1, 106), 1);
        placeIs("one better", f, 0, 0, 0, 1, 1, 0, 105);
    }

    private static void order() {
        PlaceFinder f = new PlaceFinder();
        f.sheet(200, 200);
        f.draw(100, 50, Check.packed(1, 1, 3));
        f.draw(10, 51, Check.packed(2, 1, 2));
        f.draw(60, 50, Check.packed(1, 2, 1));
        f.draw(150, 1, Check.packed(2, 2, 0));
        f.draw(0, 120, Check.packed(3, 2, 0));
        Check.equal("order: find", f.find(1, 16, 0), 5);
        placeIs("order", f, 0, 150, 1, 2, 2, 0, 0);
        placeIs("order", f, 1, 60, 50, 1, 2, 1, 0);
        placeIs("order", f, 2, 100, 50, 1, 1, 3, 0);
        placeIs("order", f, 3, 10, 51, 2, 1, 2, 0);
        placeIs("order", f, 4, 0, 120, 3, 2, 0, 0);
    }

    private static void tooMany() {
        PlaceFinder f = new PlaceFinder();
        f.draw(5, 6, Check.packed(1, 1, 0));
        Check.equal("one", f.find(1, 1, 0), 1);
        Check.equal("too many", f.find(1, 1, 300), PlaceFinder.NONE);
        Check.equal("too many: stood", f.stood(), 0);
        Check.equal("too many: place", f.place(0, 0), PlaceFinder.NONE);
        Check.thrown("too many: modules", IndexOutOfBoundsException.class, () -> f.modules(0, 0, 0));
        Check.equal("one again", f.find(1, 1, 0), 1);
        Check.equal("one again: stood", f.stood(), 1);
    }

    private static void exactlyAsManyAsMayBe() {
        PlaceFinder f = new PlaceFinder();
        f.sheet(21 + 74, 21);
        Check.equal("300: find", f.find(1, 1, 106), 1);
        Check.equal("300: stood", f.stood(), 300);
        f.sheet(21 + 75, 21);
        Check.equal("304: find", f.find(1, 1, 106), PlaceFinder.NONE);
        Check.equal("304: stood", f.stood(), 0);
        // light in the last place of each quarter but 3
        f.turn(95, 7, 1);
        Check.equal("301: find", f.find(1, 1, 106), PlaceFinder.NONE);
        // light in the last place of each quarter but 0
        f.turn(95, 13, 1);
        Check.equal("300 of 304: find", f.find(1, 1, 106), 1);
        Check.equal("300 of 304: stood", f.stood(), 300);
    }

    private static void foundStays() {
        PlaceFinder f = new PlaceFinder();
        f.draw(5, 6, Check.packed(1, 1, 0));
        Check.equal("found", f.find(1, 1, 0), 1);
        f.fill(0, 0, 64, 64, true);
        f.turn(0, 0, -1);
        f.draw(30, 30, Check.packed(1, 1, 0));
        Check.illegal("a wrong find", () -> f.find(1, 1, 501));
        Check.equal("stood stays", f.stood(), 1);
        placeIs("place stays", f, 0, 5, 6, 1, 1, 0, 0);
    }

    private static void wrongCalls() {
        PlaceFinder f = new PlaceFinder();
        int low = Integer.MIN_VALUE;
        int great = Integer.MAX_VALUE;
        int[][] finds = {
            {0, 1, 0}, {-1, 1, 0}, {17, 17, 0}, {low, 1, 0}, {great, great, 0}, {2, 1, 0}, {1, 17, 0},
            {1, 0, 0}, {1, low, 0}, {1, great, 0}, {1, 1, -1}, {1, 1, 501}, {1, 1, low}, {1, 1, great},
        };
        for (int[] a : finds) {
            Check.illegal("find(" + a[0] + ", " + a[1] + ", " + a[2] + ")", () -> f.find(a[0], a[1], a[2]));
        }
        f.draw(0, 0, Check.packed(1, 1, 0));
        Check.equal("found", f.find(1, 16, 0), 1);
        int[] whats = {-1, 6, low, great};
        for (int what : whats) {
            Check.illegal("place(0, " + what + ")", () -> f.place(0, what));
            Check.illegal("place(9, " + what + ")", () -> f.place(9, what));
        }
        int[] ks = {-1, 1, 299, 300, low, great};
        for (int k : ks) {
            Check.equal("place(" + k + ", 5)", f.place(k, 5), PlaceFinder.NONE);
        }
        placeIs("place 0", f, 0, 0, 0, 1, 1, 0, 0);
    }

    /** Sheets that are all alike stand just short of the limit everywhere. */
    private static void wholeSheets() {
        PlaceFinder f = new PlaceFinder();
        f.sheet(512, 512);
        Check.equal("light short of the limit", f.find(1, 16, 105), 0);
        Check.equal("light at the limit", f.find(1, 16, 106), PlaceFinder.NONE);
        Check.equal("light, modules of 2, short of the limit", f.find(2, 16, 423), 0);
        Check.equal("light, modules of 2, at the limit", f.find(2, 16, 424), PlaceFinder.NONE);
        Check.equal("light, modules of 3", f.find(3, 16, 500), 0);
        f.fill(0, 0, 512, 512, true);
        Check.equal("dark short of the limit", f.find(1, 16, 96), 0);
        Check.equal("dark at the limit", f.find(1, 16, 97), PlaceFinder.NONE);
        Check.equal("dark, modules of 2, short of the limit", f.find(2, 16, 387), 0);
        Check.equal("dark, modules of 2, at the limit", f.find(2, 16, 388), PlaceFinder.NONE);
    }
}
