/** Promise 5: draw. */
final class DrawTest {
    /** A symbol of version 1: # is dark, - light, and a blank free. */
    private static final String[] SYMBOL = {
        "#######-     -#######",
        "#-----#-     -#-----#",
        "#-###-#-     -#-###-#",
        "#-###-#-     -#-###-#",
        "#-###-#-     -#-###-#",
        "#-----#-     -#-----#",
        "#######-#-#-#-#######",
        "--------     --------",
        "      #              ",
        "      -              ",
        "      #              ",
        "      -              ",
        "      #              ",
        "--------#            ",
        "#######-             ",
        "#-----#-             ",
        "#-###-#-             ",
        "#-###-#-             ",
        "#-###-#-             ",
        "#-----#-             ",
        "#######-             ",
    };

    private DrawTest() {
    }

    public static void main(String[] args) {
        for (int q = 0; q < 4; q++) {
            for (int m = 1; m <= 3; m++) {
                drawnOn(false, m, q);
                drawnOn(true, m, q);
            }
        }
        atEdges();
        wrongPlaces();
        Check.end();
    }

    private static char symbolAt(int a, int b, int q) {
        int i = a;
        int j = b;
        for (int turned = 0; turned < q; turned++) {
            int old = i;
            i = j;
            j = 20 - old;
        }
        return SYMBOL[j].charAt(i);
    }

    private static void drawnOn(boolean dark, int m, int q) {
        PlaceFinder f = new PlaceFinder();
        f.sheet(100, 90);
        f.fill(0, 0, 100, 90, dark);
        String what = "m " + m + " q " + q + " on " + (dark ? "dark" : "light");
        Check.equal(what + ": wrong", f.draw(5, 7, Check.packed(m, 1, q)), m * m * (dark ? 97 : 106));
        Check.equal(what + ": wrong again", f.draw(5, 7, Check.packed(m, 1, q)), 0);
        for (int y = 0; y < 90; y++) {
            for (int x = 0; x < 100; x++) {
                int a = Math.floorDiv(x - 5, m);
                int b = Math.floorDiv(y - 7, m);
                char due = a < 0 || a > 20 || b < 0 || b > 20 ? ' ' : symbolAt(a, b, q);
                boolean dueDark = due == ' ' ? dark : due == '#';
                Check.equal(what + ": dot " + x + ", " + y, f.dots(x, y) & 1, dueDark ? 1 : 0);
            }
        }
    }

    private static void atEdges() {
        PlaceFinder f = new PlaceFinder();
        f.sheet(512, 336);
        Check.equal("m 16 at the end", f.draw(512 - 336, 0, Check.packed(16, 1, 3)), 256 * 106);
        Check.illegal("m 16 beyond it", () -> f.draw(512 - 335, 0, Check.packed(16, 1, 3)));
        Check.illegal("m 16 below it", () -> f.draw(0, 1, Check.packed(16, 1, 3)));
        Check.illegal("m 16 too great", () -> f.draw(0, 0, Check.packed(16, 2, 3)));
        f.sheet(177, 177);
        Check.equal("v 40 fits", f.draw(0, 0, Check.packed(1, 40, 2)), 99 + 2 * 81 + 1);
        Check.equal("one dot wrong", f.turn(176, 176, 1) + f.draw(0, 0, Check.packed(1, 40, 2)), 2);
        f.sheet(176, 177);
        Check.illegal("v 40 does not fit", () -> f.draw(0, 0, Check.packed(1, 40, 2)));
    }

    private static void wrongPlaces() {
        PlaceFinder f = new PlaceFinder();
        f.sheet(512, 512);
        int[] places = {
            0, -1, Integer.MIN_VALUE, Integer.MAX_VALUE, 1 << 13 | Check.packed(1, 1, 0),
            Integer.MIN_VALUE | Check.packed(1, 1, 0), Check.packed(0, 1, 0), Check.packed(17, 1, 0),
            Check.packed(31, 1, 0), Check.packed(1, 0, 0), Check.packed(1, 41, 0), Check.packed(1, 63, 3),
        };
        for (int place : places) {
            Check.illegal("draw of " + place, () -> f.draw(0, 0, place));
        }
        int[] offs = {-1, 492, Integer.MIN_VALUE, Integer.MAX_VALUE};
        for (int off : offs) {
            Check.illegal("draw at x " + off, () -> f.draw(off, 0, Check.packed(1, 1, 0)));
            Check.illegal("draw at y " + off, () -> f.draw(0, off, Check.packed(1, 1, 0)));
        }
        Check.equal("nothing was drawn", f.fill(0, 0, 512, 512, false), 0);
        Check.equal("the last place", f.draw(491, 491, Check.packed(1, 1, 0)), 106);
    }
}
