/** Promises 7 to 9 with ordinary inputs: find, stood and place. */
final class FindTest {
    private FindTest() {
    }

    public static void main(String[] args) {
        everyShape();
        someWrong();
        sideBySide();
        sameWrongDots();
        order();
        foundStays();
        wholeSheets();
        Check.end();
    }

    private static void everyShape() {
        for (int m = 1; m <= 16; m++) {
            for (int v = 1; v <= 40 && m * (17 + 4 * v) <= 500; v++) {
                PlaceFinder f = new PlaceFinder();
                f.sheet(512, 505);
                int q = (m + v) % 4;
                String what = "m " + m + " v " + v + " q " + q;
                int x = (m * 7 + v) % (512 - m * (17 + 4 * v) + 1);
                int y = (m * 5 + v * 3) % (505 - m * (17 + 4 * v) + 1);
                f.draw(x, y, Check.packed(m, v, q));
                Check.equal(what, f.find(1, 16, 0), 1);
                Check.placeIs(what, f, 0, x, y, m, v, q, 0);
            }
        }
    }

    private static void someWrong() {
        PlaceFinder f = new PlaceFinder();
        f.draw(10, 11, Check.packed(2, 1, 3));
        f.turn(10, 11, 0b11);
        f.turn(10, 12, 1);
        Check.equal("2 of 3 wrong", f.find(1, 3, 2), 0);
        Check.equal("3 of 3 wrong", f.find(1, 3, 3), 1);
        Check.placeIs("3 of 3 wrong", f, 0, 10, 11, 2, 1, 3, 3);
        f.turn(28, 34, 1);
        Check.equal("a free module is never wrong", f.find(1, 3, 3), 1);
    }

    private static void sideBySide() {
        PlaceFinder f = new PlaceFinder();
        f.sheet(64, 21);
        f.draw(0, 0, Check.packed(1, 1, 0));
        f.draw(21, 0, Check.packed(1, 1, 2));
        f.draw(43, 0, Check.packed(1, 1, 1));
        Check.equal("side by side", f.find(1, 1, 0), 3);
        Check.placeIs("side by side", f, 0, 0, 0, 1, 1, 0, 0);
        Check.placeIs("side by side", f, 1, 21, 0, 1, 1, 2, 0);
        Check.placeIs("side by side", f, 2, 43, 0, 1, 1, 1, 0);
        Check.equal("none behind", f.place(3, 0), PlaceFinder.NONE);
    }

    private static void sameWrongDots() {
        PlaceFinder f = new PlaceFinder();
        f.sheet(22, 21);
        Check.equal("as wrong: find", f.find(1, 1, 106), 1);
        Check.equal("as wrong: stood", f.stood(), 8);
        Check.placeIs("as wrong", f, 0, 0, 0, 1, 1, 0, 106);
        f.turn(1, 0, 1);
        Check.equal("one better: find", f.find(1, 1, 106), 1);
        Check.placeIs("one better", f, 0, 0, 0, 1, 1, 0, 105);
    }

    private static void order() {
        PlaceFinder f = new PlaceFinder();
        f.sheet(200, 200);
        f.draw(100, 50, Check.packed(1, 1, 3));
        f.draw(10, 51, Check.packed(2, 1, 2));
        f.draw(60, 50, Check.packed(1, 2, 1));
        f.draw(150, 1, Check.packed(2, 2, 0));
        f.draw(0, 120, Check.packed(3, 2, 0));
        Check.equal("order: find", f.find(1, 16, 0), 5);
        Check.placeIs("order", f, 0, 150, 1, 2, 2, 0, 0);
        Check.placeIs("order", f, 1, 60, 50, 1, 2, 1, 0);
        Check.placeIs("order", f, 2, 100, 50, 1, 1, 3, 0);
        Check.placeIs("order", f, 3, 10, 51, 2, 1, 2, 0);
        Check.placeIs("order", f, 4, 0, 120, 3, 2, 0, 0);
    }

    private static void foundStays() {
        PlaceFinder f = new PlaceFinder();
        f.draw(5, 6, Check.packed(1, 1, 0));
        Check.equal("found", f.find(1, 1, 0), 1);
        f.fill(0, 0, 64, 64, true);
        f.turn(0, 0, -1);
        f.draw(30, 30, Check.packed(1, 1, 0));
        Check.equal("stood stays", f.stood(), 1);
        Check.placeIs("place stays", f, 0, 5, 6, 1, 1, 0, 0);
    }

    /** On sheets that are all alike symbols stand just short of the limit everywhere. */
    private static void wholeSheets() {
        PlaceFinder f = new PlaceFinder();
        f.sheet(512, 512);
        Check.equal("light short of the limit", f.find(1, 16, 105), 0);
        Check.equal("light at the limit", f.find(1, 16, 106), PlaceFinder.NONE);
        Check.equal("light, modules of 2, short of the limit", f.find(2, 16, 423), 0);
        Check.equal("light, modules of 2, at the limit", f.find(2, 16, 424), PlaceFinder.NONE);
        Check.equal("light, modules of 3", f.find(3, 16, 500), 0);
        f.fill(0, 0, 512, 512, true);
        Check.equal("dark short of the limit", f.find(1, 16, 96), 0);
        Check.equal("dark at the limit", f.find(1, 16, 97), PlaceFinder.NONE);
        Check.equal("dark, modules of 2, short of the limit", f.find(2, 16, 387), 0);
        Check.equal("dark, modules of 2, at the limit", f.find(2, 16, 388), PlaceFinder.NONE);
    }
}
