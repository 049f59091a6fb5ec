/** Promise 5 with ordinary inputs: draw. */
final class DrawTest {
    /** A symbol of version 1: # is dark, - light, and a blank free. */
    private static final String[] SYMBOL = {
        "#######-     -#######",
        "#-----#-     -#-----#",
        "#-###-#-     -#-###-#",
        "#-###-#-     -#-###-#",
        "#-###-#-     -#-###-#",
        "#-----#-     -#-----#",
        "#######-#-#-#-#######",
        "--------     --------",
        "      #              ",
        "      -              ",
        "      #              ",
        "      -              ",
        "      #              ",
        "--------#            ",
        "#######-             ",
        "#-----#-             ",
        "#-###-#-             ",
        "#-###-#-             ",
        "#-###-#-             ",
        "#-----#-             ",
        "#######-             ",
    };

    private DrawTest() {
    }

    public static void main(String[] args) {
        for (int q = 0; q < 4; q++) {
            for (int m = 1; m <= 3; m++) {
                drawnOn(false, m, q);
                drawnOn(true, m, q);
            }
        }
        Check.end();
    }

    private static char symbolAt(int a, int b, int q) {
        int i = a;
        int j = b;
        for (int turned = 0; turned < q; turned++) {
            int old = i;
            i = j;
            j = 20 - old;
        }
        return SYMBOL[j].charAt(i);
    }

    private static void drawnOn(boolean dark, int m, int q) {
        PlaceFinder f = new PlaceFinder();
        f.sheet(100, 90);
        f.fill(0, 0, 100, 90, dark);
        String what = "m " + m + " q " + q + " on " + (dark ? "dark" : "light");
        Check.equal(what + ": wrong", f.draw(5, 7, Check.packed(m, 1, q)), m * m * (dark ? 97 : 106));
        Check.equal(what + ": wrong again", f.draw(5, 7, Check.packed(m, 1, q)), 0);
        for (int y = 0; y < 90; y++) {
            for (int from = 0; from < 100; from += 50) {
                long due = 0;
                for (int x = from; x < from + 50; x++) {
                    due |= isDue(x, y, m, q, dark) ? 1L << x - from : 0;
                }
                Check.equal(what + ": dots " + from + ", " + y, f.dots(from, y) & (1L << 50) - 1, due);
            }
        }
    }

    private static boolean isDue(int x, int y, int m, int q, boolean dark) {
        int a = Math.floorDiv(x - 5, m);
        int b = Math.floorDiv(y - 7, m);
        char due = a < 0 || a > 20 || b < 0 || b > 20 ? ' ' : symbolAt(a, b, q);
        return due == ' ' ? dark : due == '#';
    }
}
