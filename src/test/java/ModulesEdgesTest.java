/** The boundary cases of promise 10, each sentence of the document by a test of its own. */
final class ModulesEdgesTest {
    private static final int LOW = Integer.MIN_VALUE;
    private static final int GREAT = Integer.MAX_VALUE;

    private ModulesEdgesTest() {
    }

    public static void main(String[] args) {
        noSuchPlace();
        nothingFound();
        onlyPlacesThatLead();
        upToSixtyFour();
        columnsThatThereAreNot();
        rowsThatThereAreNot();
        beyondTheGreatestInt();
        justHalf();
        moreThanHalf();
        everyModuleInItsBlock();
        besideTheSymbol();
        theSheetAsItIsNow();
        Check.end();
    }

    /** A symbol of modules of m dots in a corner of a sheet that has been filled since. */
    private static PlaceFinder filled(int m, int v, int q) {
        PlaceFinder f = new PlaceFinder();
        int length = m * (17 + 4 * v);
        f.sheet(length + 3, length + 2);
        f.draw(3, 2, Check.packed(m, v, q));
        Check.equal("found", f.find(m, m, 0), 1);
        f.fill(0, 0, 512, 512, true);
        return f;
    }

    /** "IndexOutOfBoundsException: there is no such place", wherever i and j are. */
    private static void noSuchPlace() {
        int[] ks = {-1, -2, -300, 1, 2, 299, 300, 301, 65_536, LOW, GREAT};
        int[] at = {0, -1, 21, LOW, GREAT};
        PlaceFinder f = filled(1, 1, 0);
        for (int k : ks) {
            for (int i : at) {
                Check.outOfBounds("modules(" + k + ", " + i + ", 0)", () -> f.modules(k, i, 0));
                Check.outOfBounds("modules(" + k + ", 0, " + i + ")", () -> f.modules(k, 0, i));
            }
        }
        Check.equal("modules(0, 0, 0)", f.modules(0, 0, 0), (1 << 21) - 1);
        PlaceFinder two = new PlaceFinder();
        two.draw(0, 0, Check.packed(1, 1, 0));
        two.draw(30, 30, Check.packed(1, 1, 0));
        Check.equal("two found", two.find(1, 1, 0), 2);
        Check.equal("two found: modules(1, 0, 20)", two.modules(1, 0, 20), 0b1111111);
        Check.outOfBounds("two found: modules(-1, 0, 0)", () -> two.modules(-1, 0, 0));
        Check.outOfBounds("two found: modules(2, 0, 0)", () -> two.modules(2, 0, 0));
    }

    /** The same, when nothing is found: by no find() yet, by one that found none or too many, on a new sheet. */
    private static void nothingFound() {
        PlaceFinder f = new PlaceFinder();
        Check.outOfBounds("new", () -> f.modules(0, 0, 0));
        f.draw(0, 0, Check.packed(1, 1, 0));
        Check.outOfBounds("drawn", () -> f.modules(0, 0, 0));
        f.find(2, 16, 0);
        Check.outOfBounds("none found", () -> f.modules(0, 0, 0));
        f.find(1, 1, 0);
        Check.equal("found", f.modules(0, 0, 0), 0b1111111_0000000_1111111);
        f.find(1, 1, 500);
        Check.outOfBounds("too many", () -> f.modules(0, 0, 0));
        f.find(1, 1, 0);
        f.sheet(64, 64);
        Check.outOfBounds("a new sheet", () -> f.modules(0, 0, 0));
    }

    /** "place k that was found": not of all at which one could stand. */
    private static void onlyPlacesThatLead() {
        PlaceFinder f = new PlaceFinder();
        f.sheet(22, 21);
        Check.equal("find", f.find(1, 1, 106), 1);
        Check.equal("stood", f.stood(), 8);
        Check.equal("the one that leads", f.modules(0, 0, 0), 0);
        for (int k = 1; k < 9; k++) {
            int other = k;
            Check.outOfBounds("one that does not lead", () -> f.modules(other, 0, 0));
        }
        PlaceFinder second = new PlaceFinder();
        second.draw(0, 0, Check.packed(1, 1, 0));
        second.draw(20, 20, Check.packed(1, 1, 2));
        second.turn(0, 0, 1);
        Check.equal("the second one leads: find", second.find(1, 1, 1), 1);
        Check.equal("the second one leads: stood", second.stood(), 2);
        Check.equal("the second one leads", second.modules(0, 0, 20), 0b1111111);
        Check.equal("the second one leads: its row 0", second.modules(0, 0, 0), 0b1111111_0000000_1111111);
    }

    /** "from module i on, up to 64": 64 of 65, of 61 and of 177. */
    private static void upToSixtyFour() {
        PlaceFinder f = filled(1, 12, 2);
        Check.equal("65: the first 64", f.modules(0, 0, 64), -1);
        Check.equal("65: the last 64", f.modules(0, 1, 64), -1);
        Check.equal("65: the last 63", f.modules(0, 2, 64), -1L >>> 1);
        PlaceFinder less = filled(1, 11, 2);
        Check.equal("61: all", less.modules(0, 0, 60), -1L >>> 3);
        PlaceFinder most = filled(1, 40, 3);
        Check.equal("177: the first 64", most.modules(0, 0, 0), -1);
        Check.equal("177: the last 64", most.modules(0, 113, 176), -1);
        Check.equal("177: the last 63", most.modules(0, 114, 176), -1L >>> 1);
    }

    /** "0 for those that there are not": left of the first and behind the last module of a row. */
    private static void columnsThatThereAreNot() {
        for (int q = 0; q < 4; q++) {
            PlaceFinder f = filled(2, 1, q);
            for (int i = -66; i <= 23; i++) {
                long due = 0;
                for (int bit = 0; bit < 64; bit++) {
                    due |= i + bit >= 0 && i + bit < 21 ? 1L << bit : 0;
                }
                Check.equal("q " + q + " from " + i + " on", f.modules(0, i, 20), due);
            }
            Check.equal("q " + q + " far left", f.modules(0, -65_536, 0) | f.modules(0, LOW, 0) | f.modules(0, LOW + 20, 0), 0);
            Check.equal("q " + q + " far right", f.modules(0, 65_536, 0) | f.modules(0, 512, 0), 0);
        }
    }

    /** The same for rows. */
    private static void rowsThatThereAreNot() {
        int[] rows = {-1, -2, -21, -512, LOW, LOW + 1, 21, 22, 42, 512, 65_536, GREAT, GREAT - 1};
        for (int q = 0; q < 4; q++) {
            PlaceFinder f = filled(2, 1, q);
            for (int j : rows) {
                Check.equal("q " + q + " row " + j, f.modules(0, 0, j) | f.modules(0, 20, j) | f.modules(0, -3, j), 0);
            }
            for (int j = 0; j < 21; j++) {
                Check.equal("q " + q + " row " + j, f.modules(0, 0, j), (1 << 21) - 1);
            }
        }
    }

    /** The same where i goes beyond the greatest int. */
    private static void beyondTheGreatestInt() {
        for (int q = 0; q < 4; q++) {
            PlaceFinder f = filled(1, 1, q);
            for (int below = 0; below <= 64; below++) {
                Check.equal("q " + q + " from the greatest int less " + below, f.modules(0, GREAT - below, below % 21), 0);
            }
            Check.equal("q " + q + " both", f.modules(0, GREAT, GREAT) | f.modules(0, GREAT - 20, LOW), 0);
        }
    }

    private static PlaceFinder found(int m, int q) {
        PlaceFinder f = new PlaceFinder();
        f.sheet(340, 337);
        f.draw(1, 1, Check.packed(m, 1, q));
        Check.equal("found", f.find(m, m, 0), 1);
        return f;
    }

    /** "1 if more than half of the dots of its block are dark": just half is not. */
    private static void justHalf() {
        for (int m = 2; m <= 16; m += 2) {
            for (int q = 0; q < 4; q++) {
                // the middle block (10, 10) holds the free module (10, 10) in every quarter
                PlaceFinder f = found(m, q);
                f.fill(1 + 10 * m, 1 + 10 * m, m, m / 2, true);
                Check.equal("m " + m + " q " + q + ": the upper half", f.modules(0, 10, 10), 0);
                f.fill(1 + 10 * m, 1 + 10 * m, m, m, false);
                f.fill(1 + 10 * m, 1 + 10 * m, m / 2, m, true);
                Check.equal("m " + m + " q " + q + ": the left half", f.modules(0, 10, 10), 0);
                f.fill(1 + 11 * m - 1, 1 + 11 * m - 1, 1, 1, true);
                Check.equal("m " + m + " q " + q + ": a dot more", f.modules(0, 10, 10), 1);
                f.fill(1 + 10 * m, 1 + 10 * m, 1, 1, false);
                Check.equal("m " + m + " q " + q + ": half again", f.modules(0, 10, 10), 0);
            }
        }
    }

    /** The same where no number of dots is just half. */
    private static void moreThanHalf() {
        for (int m = 1; m <= 15; m += 2) {
            PlaceFinder f = found(m, m % 4);
            f.fill(1 + 10 * m, 1 + 10 * m, m, m, true);
            Check.equal("m " + m + ": all dark", f.modules(0, 10, 10), 1);
            if (m > 1) {
                f.fill(1 + 10 * m, 1 + 10 * m, m, m / 2, false);
                Check.equal("m " + m + ": more than half", f.modules(0, 10, 10), 1);
                f.fill(1 + 10 * m, 1 + 10 * m + m / 2, m / 2, 1, false);
                Check.equal("m " + m + ": half and half a dot", f.modules(0, 10, 10), 1);
            }
            f.fill(1 + 10 * m + m / 2, 1 + 10 * m + m / 2, 1, 1, false);
            Check.equal("m " + m + ": a dot less", f.modules(0, 10, 10), 0);
            f.fill(1 + 10 * m, 1 + 10 * m, m, m, false);
            Check.equal("m " + m + ": none", f.modules(0, 10, 10), 0);
        }
    }

    /** "Module (i, j) lies in the block (i, j), (S - 1 - j, i), (S - 1 - i, S - 1 - j) or (j, S - 1 - i)". */
    private static void everyModuleInItsBlock() {
        for (int q = 0; q < 4; q++) {
            PlaceFinder f = filled(2, 1, q);
            for (int j = 0; j < 21; j++) {
                int i = (j * 8 + q) % 21;
                int a = q == 0 ? i : q == 1 ? 20 - j : q == 2 ? 20 - i : j;
                int b = q == 0 ? j : q == 1 ? i : q == 2 ? 20 - j : 20 - i;
                f.fill(3 + 2 * a, 2 + 2 * b, 2, 2, false);
                Check.equal("q " + q + " row " + j, f.modules(0, 0, j), (1 << 21) - 1 - (1 << i));
                f.fill(3 + 2 * a, 2 + 2 * b, 2, 2, true);
            }
        }
    }

    /** "of the dots of its block": no dot beside the symbol counts, and each one at its edges does. */
    private static void besideTheSymbol() {
        for (int q = 0; q < 4; q++) {
            PlaceFinder f = new PlaceFinder();
            f.draw(5, 6, Check.packed(2, 1, q));
            Check.equal("found", f.find(2, 2, 0), 1);
            f.fill(0, 0, 64, 64, true);
            f.fill(5, 6, 42, 42, false);
            long any = 0;
            for (int j = -1; j <= 21; j++) {
                any |= f.modules(0, -1, j) | f.modules(0, -40, j);
            }
            Check.equal("q " + q + ": all around is dark", any, 0);
            f.fill(0, 0, 64, 64, false);
            f.fill(5, 6, 42, 42, true);
            for (int j = 0; j < 21; j++) {
                Check.equal("q " + q + ": all around is light, row " + j, f.modules(0, 0, j), (1 << 21) - 1);
            }
        }
    }

    /** "by the sheet as it is now": also where it has been turned, filled or drawn on since. */
    private static void theSheetAsItIsNow() {
        PlaceFinder f = new PlaceFinder();
        f.sheet(21, 21);
        f.draw(0, 0, Check.packed(1, 1, 0));
        Check.equal("found", f.find(1, 1, 0), 1);
        Check.equal("as found", f.modules(0, 0, 20), 0b1111111);
        f.turn(0, 20, -1);
        Check.equal("turned", f.modules(0, 0, 20), 0b1111111_1111111_0000000);
        f.fill(0, 20, 21, 1, true);
        Check.equal("filled", f.modules(0, 0, 20), (1 << 21) - 1);
        f.fill(0, 0, 21, 21, false);
        f.draw(0, 0, Check.packed(1, 1, 2));
        Check.equal("drawn on", f.modules(0, 0, 20), 0b1111111_0000000_1111111);
    }
}
