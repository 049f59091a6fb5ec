/** Promises 1 to 4 and 6: a new object, sheet, turn, fill and dots. */
final class SheetTest {
    private SheetTest() {
    }

    public static void main(String[] args) {
        newObject();
        newSheet();
        wrongSheets();
        turning();
        turningAtEdges();
        filling();
        fillingAtEdges();
        readingDots();
        Check.end();
    }

    private static long darkDots(PlaceFinder f) {
        long count = 0;
        for (int y = 0; y < 512; y++) {
            for (int x = 0; x < 512; x += 64) {
                count += Long.bitCount(f.dots(x, y));
            }
        }
        return count;
    }

    private static void newObject() {
        PlaceFinder f = new PlaceFinder();
        Check.equal("new: dark dots", darkDots(f), 0);
        Check.equal("new: stood()", f.stood(), 0);
        Check.equal("new: place(0, 0)", f.place(0, 0), PlaceFinder.NONE);
        Check.thrown("new: modules(0, 0, 0)", IndexOutOfBoundsException.class, () -> f.modules(0, 0, 0));
        Check.equal("new: all of its dots", f.fill(0, 0, 512, 512, true), 64 * 64);
        Check.equal("new: its width", f.turn(63, 0, -1), 1);
        Check.equal("new: its height", f.turn(0, 63, 1) + f.turn(0, 64, 1), 1);
        Check.equal("NONE", PlaceFinder.NONE, -1);
    }

    private static void newSheet() {
        PlaceFinder f = new PlaceFinder();
        f.fill(0, 0, 64, 64, true);
        f.sheet(30, 40);
        Check.equal("a new sheet is light", darkDots(f), 0);
        Check.equal("a new sheet's dots", f.fill(-100, -100, 512, 512, true), 30 * 40);
        f.sheet(512, 512);
        Check.equal("a great sheet is light", darkDots(f), 0);
        Check.equal("a great sheet's dots", f.fill(0, 0, 512, 512, true), 512 * 512);
        f.sheet(1, 1);
        Check.equal("a small sheet's dots", f.fill(0, 0, 512, 512, true), 1);
        f.sheet(21, 21);
        f.draw(0, 0, Check.packed(1, 1, 0));
        Check.equal("found before the sheet", f.find(1, 1, 0), 1);
        f.sheet(21, 21);
        Check.equal("sheet: stood()", f.stood(), 0);
        Check.equal("sheet: place(0, 2)", f.place(0, 2), PlaceFinder.NONE);
        Check.thrown("sheet: modules", IndexOutOfBoundsException.class, () -> f.modules(0, 0, 0));
        Check.equal("sheet: nothing to find", f.find(1, 16, 0), 0);
    }

    private static void wrongSheets() {
        PlaceFinder f = new PlaceFinder();
        f.draw(2, 3, Check.packed(2, 1, 1));
        Check.equal("found", f.find(2, 2, 0), 1);
        long dark = darkDots(f);
        int[][] sizes = {{0, 1}, {1, 0}, {513, 1}, {1, 513}, {-1, 5}, {5, Integer.MIN_VALUE}, {Integer.MAX_VALUE, 5}};
        for (int[] size : sizes) {
            Check.illegal("sheet(" + size[0] + ", " + size[1] + ")", () -> {
                f.sheet(size[0], size[1]);
                return 0;
            });
        }
        Check.equal("a wrong sheet leaves the dots", darkDots(f), dark);
        Check.equal("a wrong sheet leaves what was found", f.place(0, 1), 3);
        Check.equal("a wrong sheet leaves stood()", f.stood(), 1);
    }

    private static void turning() {
        PlaceFinder f = new PlaceFinder();
        f.sheet(200, 10);
        Check.equal("turn(50, 4, 0b1011)", f.turn(50, 4, 0b1011), 3);
        Check.equal("dots turned", f.dots(50, 4), 0b1011);
        Check.equal("turn over a word's end", f.turn(40, 5, -1), 64);
        Check.equal("dots over a word's end", f.dots(40, 5), -1);
        Check.equal("dots before it", f.dots(39, 5), -2);
        Check.equal("dots behind it", f.dots(41, 5), -1L >>> 1);
        Check.equal("turn back counts too", f.turn(50, 4, 0b0110), 2);
        Check.equal("dots turned back", f.dots(50, 4), 0b1101);
        Check.equal("turn nothing", f.turn(50, 4, 0), 0);
        Check.equal("all dark dots", darkDots(f), 3 + 64);
    }

    private static void turningAtEdges() {
        PlaceFinder f = new PlaceFinder();
        f.sheet(70, 10);
        Check.equal("at the right", f.turn(60, 0, -1), 10);
        Check.equal("beyond the right", f.turn(70, 0, -1), 0);
        Check.equal("at the left", f.turn(-60, 1, -1), 4);
        Check.equal("its dots", f.dots(0, 1), 15);
        Check.equal("the last at the left", f.turn(-63, 2, Long.MIN_VALUE), 1);
        Check.equal("beyond the left", f.turn(-64, 2, -1), 0);
        Check.equal("above", f.turn(0, -1, -1) + f.turn(0, Integer.MIN_VALUE, -1), 0);
        Check.equal("below", f.turn(0, 10, -1) + f.turn(0, Integer.MAX_VALUE, -1), 0);
        Check.equal("far off", f.turn(Integer.MAX_VALUE, 0, -1) + f.turn(Integer.MIN_VALUE, 0, -1), 0);
        Check.equal("all dark dots", darkDots(f), 10 + 4 + 1);
        f.sheet(512, 1);
        Check.equal("the last word", f.turn(450, 0, -1) + f.turn(511, 0, -1), 62 + 1);
        Check.equal("the last word's dots", f.dots(449, 0), -1L >>> 2 << 1 & (1L << 62) - 1);
    }

    private static void filling() {
        PlaceFinder f = new PlaceFinder();
        f.sheet(300, 20);
        Check.equal("fill dark", f.fill(10, 2, 200, 3, true), 600);
        Check.equal("fill dark again", f.fill(10, 2, 200, 3, true), 0);
        Check.equal("fill more", f.fill(9, 1, 202, 5, true), 202 * 5 - 600);
        Check.equal("dark dots", darkDots(f), 202 * 5);
        Check.equal("fill light", f.fill(9, 1, 1, 1, false), 1);
        Check.equal("fill light more", f.fill(0, 0, 10, 20, false), 4);
        Check.equal("dots", f.dots(0, 1), -1L << 10);
        Check.equal("dots at its end", f.dots(209, 5), 3);
        Check.equal("dots below", f.dots(209, 6), 0);
    }

    private static void fillingAtEdges() {
        PlaceFinder f = new PlaceFinder();
        f.sheet(100, 100);
        Check.equal("left and above", f.fill(-10, -10, 12, 13, true), 2 * 3);
        Check.equal("right and below", f.fill(98, 97, 512, 512, true), 2 * 3);
        Check.equal("off the sheet", f.fill(100, 0, 5, 5, true) + f.fill(0, -5, 5, 5, true), 0);
        int great = Integer.MAX_VALUE;
        int low = Integer.MIN_VALUE;
        Check.equal("far off", f.fill(great, 0, 512, 1, true) + f.fill(0, great, 1, 512, true)
            + f.fill(low, 0, 512, 1, true) + f.fill(0, low, 1, 512, true), 0);
        int[][] sizes = {{0, 1}, {1, 0}, {513, 1}, {1, 513}, {-3, 1}, {1, low}, {great, great}};
        for (int[] size : sizes) {
            Check.illegal("fill with " + size[0] + ", " + size[1], () -> f.fill(50, 50, size[0], size[1], true));
        }
        Check.equal("dark dots", darkDots(f), 12);
        Check.equal("all", f.fill(0, 0, 512, 512, true), 100 * 100 - 12);
    }

    private static void readingDots() {
        PlaceFinder f = new PlaceFinder();
        f.sheet(130, 3);
        f.fill(0, 1, 130, 1, true);
        Check.equal("within", f.dots(3, 1), -1);
        Check.equal("at the right", f.dots(120, 1), (1 << 10) - 1);
        Check.equal("the last", f.dots(129, 1), 1);
        Check.equal("beyond the right", f.dots(130, 1), 0);
        Check.equal("at the left", f.dots(-3, 1), -8);
        Check.equal("the first", f.dots(-63, 1), Long.MIN_VALUE);
        Check.equal("beyond the left", f.dots(-64, 1), 0);
        Check.equal("above", f.dots(0, 0) | f.dots(0, -1) | f.dots(0, Integer.MIN_VALUE), 0);
        Check.equal("below", f.dots(0, 2) | f.dots(0, 3) | f.dots(0, Integer.MAX_VALUE), 0);
        Check.equal("far off", f.dots(Integer.MIN_VALUE, 1) | f.dots(Integer.MAX_VALUE, 1), 0);
    }
}
