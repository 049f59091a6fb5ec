/** Promises 2 to 4 and 6 with ordinary inputs: sheet, turn, fill and dots. */
final class SheetTest {
    private SheetTest() {
    }

    public static void main(String[] args) {
        newSheet();
        turning();
        filling();
        Check.end();
    }

    private static void newSheet() {
        PlaceFinder f = new PlaceFinder();
        f.fill(0, 0, 64, 64, true);
        f.sheet(30, 40);
        Check.allLight("a new sheet", f, 30, 40);
        f.sheet(200, 100);
        Check.allLight("a greater sheet", f, 200, 100);
        f.sheet(70, 300);
        Check.allLight("a sheet of another form", f, 70, 300);
    }

    private static void turning() {
        PlaceFinder f = new PlaceFinder();
        f.sheet(200, 10);
        Check.equal("turn(50, 4, 0b1011)", f.turn(50, 4, 0b1011), 3);
        Check.equal("dots turned", f.dots(50, 4), 0b1011);
        Check.equal("turn over a word's end", f.turn(40, 5, -1), 64);
        Check.equal("dots over a word's end", f.dots(40, 5), -1);
        Check.equal("dots before it", f.dots(39, 5), -2);
        Check.equal("dots behind it", f.dots(41, 5), -1L >>> 1);
        Check.equal("turn back counts too", f.turn(50, 4, 0b0110), 2);
        Check.equal("dots turned back", f.dots(50, 4), 0b1101);
        Check.equal("turn nothing", f.turn(50, 4, 0), 0);
        Check.darkDots("all turned", f, 3 + 64);
    }

    private static void filling() {
        PlaceFinder f = new PlaceFinder();
        f.sheet(300, 20);
        Check.equal("fill dark", f.fill(10, 2, 200, 3, true), 600);
        Check.equal("fill dark again", f.fill(10, 2, 200, 3, true), 0);
        Check.equal("fill more", f.fill(9, 1, 202, 5, true), 202 * 5 - 600);
        Check.equal("fill light", f.fill(9, 1, 1, 1, false), 1);
        Check.equal("fill light more", f.fill(0, 0, 10, 20, false), 4);
        Check.equal("dots", f.dots(0, 1), -1L << 10);
        Check.equal("dots at its end", f.dots(209, 5), 3);
        Check.equal("dots below", f.dots(209, 6), 0);
        Check.darkDots("all filled", f, 201 * 5);
    }
}
