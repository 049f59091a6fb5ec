/** Promise 10 with ordinary inputs: modules. */
final class ModulesTest {
    private ModulesTest() {
    }

    public static void main(String[] args) {
        for (int q = 0; q < 4; q++) {
            majority(q);
        }
        wideSymbol();
        Check.end();
    }

    /** Darkens dot by dot the block of the free module (12, 11), in a symbol of 25 modules. */
    private static void majority(int q) {
        for (int m = 1; m <= 4; m++) {
            PlaceFinder f = new PlaceFinder();
            f.sheet(120, 120);
            f.draw(4, 5, Check.packed(m, 2, q));
            Check.equal("found", f.find(m, m, 0), 1);
            int a = q == 0 ? 12 : q == 1 ? 24 - 11 : q == 2 ? 24 - 12 : 11;
            int b = q == 0 ? 11 : q == 1 ? 12 : q == 2 ? 24 - 11 : 24 - 12;
            for (int dark = 0; dark <= m * m; dark++) {
                if (dark > 0) {
                    f.fill(4 + m * a + (dark - 1) % m, 5 + m * b + (dark - 1) / m, 1, 1, true);
                }
                String what = "m " + m + " q " + q + " with " + dark + " dark";
                Check.equal(what, f.modules(0, 12, 11), 2 * dark > m * m ? 1 : 0);
                Check.equal(what + ", from module 2 on", f.modules(0, 2, 11), 2 * dark > m * m ? 1 << 10 : 0);
                Check.equal(what + ", beside it", f.modules(0, 13, 11) | f.modules(0, 12, 10), 0);
            }
            Check.equal("row 0", f.modules(0, 0, 0), 0b1111111_00000000000_1111111);
            Check.equal("row 6", f.modules(0, 0, 6), 0b1111111_01010101010_1111111);
            Check.equal("the module that stands alone", f.modules(0, 8, 17), 1);
            Check.equal("no finder", f.modules(0, 17, 24), 0);
        }
    }

    private static void wideSymbol() {
        PlaceFinder f = new PlaceFinder();
        f.sheet(180, 180);
        f.draw(1, 2, Check.packed(1, 40, 0));
        Check.equal("found", f.find(1, 1, 0), 1);
        Check.equal("64 of row 6", f.modules(0, 8, 6), 0x5555555555555555L);
        Check.equal("64 of row 6 from an odd one on", f.modules(0, 9, 6), 0xAAAAAAAAAAAAAAAAL);
        Check.equal("the last", f.modules(0, 176, 6), 1);
        f.fill(0, 0, 180, 180, true);
        Check.equal("the sheet as it is now", f.modules(0, 100, 100), -1);
    }
}
