/**
 * "Methods throw what their comments name, the one named first when several would do; a call that
 * throws changes nothing."
 */
final class RefusedCallsTest {
    private static final int LOW = Integer.MIN_VALUE;
    private static final int GREAT = Integer.MAX_VALUE;

    private interface Refused {
        long call(PlaceFinder f);
    }

    private RefusedCallsTest() {
    }

    public static void main(String[] args) {
        sheets();
        fills();
        draws();
        finds();
        places();
        modules();
        methodsThatNameNone();
        Check.end();
    }

    private static void sheets() {
        int[][] calls = {{0, 30}, {30, 0}, {513, 30}, {30, 513}, {-1, -1}, {513, 0}, {LOW, GREAT}};
        for (int[] c : calls) {
            refused("sheet(" + c[0] + ", " + c[1] + ")", IllegalArgumentException.class, f -> {
                f.sheet(c[0], c[1]);
                return 0;
            });
        }
    }

    private static void fills() {
        int[][] calls = {{0, 30}, {30, 0}, {513, 30}, {30, 513}, {-1, -1}, {513, 0}, {LOW, GREAT}};
        for (int[] c : calls) {
            refused("fill dark " + c[0] + ", " + c[1], IllegalArgumentException.class, f -> f.fill(0, 0, c[0], c[1], true));
            refused("fill light " + c[0] + ", " + c[1], IllegalArgumentException.class, f -> f.fill(0, 0, c[0], c[1], false));
        }
    }

    private static void draws() {
        int good = Check.packed(1, 1, 0);
        int[][] calls = {
            {0, 0, good | 1 << 13}, {0, 0, good | LOW}, {0, 0, Check.packed(0, 1, 0)}, {0, 0, Check.packed(17, 1, 0)},
            {0, 0, Check.packed(1, 0, 0)}, {0, 0, Check.packed(1, 41, 0)}, {-1, 0, good}, {0, -1, good}, {44, 0, good},
            {0, 44, good}, {0, 0, Check.packed(4, 1, 0)}, {0, 0, Check.packed(1, 12, 0)}, {-1, GREAT, -1},
        };
        for (int[] c : calls) {
            refused("draw(" + c[0] + ", " + c[1] + ", " + c[2] + ")", IllegalArgumentException.class, f -> f.draw(c[0], c[1], c[2]));
        }
    }

    private static void finds() {
        int[][] calls = {{0, 1, 0}, {17, 17, 0}, {2, 1, 0}, {1, 17, 0}, {1, 1, -1}, {1, 1, 501}, {0, 17, 501}, {LOW, LOW, LOW}};
        for (int[] c : calls) {
            refused("find(" + c[0] + ", " + c[1] + ", " + c[2] + ")", IllegalArgumentException.class, f -> f.find(c[0], c[1], c[2]));
        }
    }

    private static void places() {
        int[][] calls = {{0, -1}, {0, 6}, {2, 6}, {-1, -1}, {GREAT, LOW}};
        for (int[] c : calls) {
            refused("place(" + c[0] + ", " + c[1] + ")", IllegalArgumentException.class, f -> f.place(c[0], c[1]));
        }
    }

    private static void modules() {
        int[][] calls = {{-1, 0, 0}, {2, 0, 0}, {300, 0, 0}, {GREAT, GREAT, GREAT}, {LOW, -1, 21}};
        for (int[] c : calls) {
            refused("modules(" + c[0] + ", " + c[1] + ", " + c[2] + ")", IndexOutOfBoundsException.class, f -> f.modules(c[0], c[1], c[2]));
        }
    }

    /** The call in each state that an object can be in. */
    private static void refused(String what, Class<? extends RuntimeException> due, Refused refused) {
        unchanged("new: " + what, due, refused, new PlaceFinder(), 0);
        unchanged("two found: " + what, due, refused, twoFound(), 2);
        PlaceFinder tooMany = twoFound();
        Check.equal("too many", tooMany.find(1, 1, 500), PlaceFinder.NONE);
        unchanged("too many found: " + what, due, refused, tooMany, 2);
        PlaceFinder again = twoFound();
        again.sheet(64, 30);
        again.draw(0, 4, Check.packed(1, 1, 2));
        unchanged("a new sheet: " + what, due, refused, again, 1);
    }

    private static PlaceFinder twoFound() {
        PlaceFinder f = new PlaceFinder();
        f.draw(1, 2, Check.packed(1, 1, 3));
        f.draw(22, 21, Check.packed(2, 1, 1));
        f.turn(20, 63, 0b10110111);
        Check.equal("found", f.find(1, 2, 1), 2);
        return f;
    }

    /** What the object tells, and what it finds then, is the same as without the call. */
    private static void unchanged(String what, Class<? extends RuntimeException> due, Refused refused, PlaceFinder f, int toFind) {
        String before = Check.state(f, 64);
        Check.thrown(what, due, () -> refused.call(f));
        Check.same(what, Check.state(f, 64), before);
        Check.equal(what + ": find", f.find(1, 16, 0), toFind);
    }

    /** turn(), dots() and stood() name no exception, and throw none for any arguments. */
    private static void methodsThatNameNone() {
        int[] at = {LOW, LOW + 1, -65_536, -513, -64, -1, 0, 1, 63, 64, 511, 512, 513, 65_536, GREAT - 63, GREAT};
        int[][] sheets = {{1, 1}, {64, 64}, {512, 512}};
        for (int[] s : sheets) {
            for (int x : at) {
                PlaceFinder f = new PlaceFinder();
                f.sheet(s[0], s[1]);
                for (int y : at) {
                    boolean isOn = x >= 0 && x < s[0] && y >= 0 && y < s[1];
                    Check.equal("turn(" + x + ", " + y + ", 1)", f.turn(x, y, 1), isOn ? 1 : 0);
                    Check.equal("dots(" + x + ", " + y + ")", f.dots(x, y) & 1, isOn ? 1 : 0);
                    Check.equal("stood()", f.stood(), 0);
                }
            }
        }
    }
}
