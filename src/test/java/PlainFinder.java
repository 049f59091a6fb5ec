import java.util.ArrayList;
import java.util.List;

/** The document's words as plainly as can be, dot by dot, to compare the program with. */
final class PlainFinder {
    private record Place(int x, int y, int m, int v, int q, int wrong) {
        int end(int from) {
            return from + m * (17 + 4 * v);
        }

        boolean meets(Place o) {
            return x < o.end(o.x) && o.x < end(x) && y < o.end(o.y) && o.y < end(y);
        }
    }

    private int width = 64;
    private int height = 64;
    private boolean[][] dark = new boolean[64][64];
    private List<Place> standing = new ArrayList<>();
    private List<Place> found = new ArrayList<>();

    void sheet(int w, int h) {
        width = w;
        height = h;
        dark = new boolean[h][w];
        standing = new ArrayList<>();
        found = new ArrayList<>();
    }

    private boolean isOn(long x, long y) {
        return x >= 0 && x < width && y >= 0 && y < height;
    }

    int turn(int x, int y, long bits) {
        int count = 0;
        for (int b = 0; b < 64; b++) {
            if ((bits >>> b & 1) != 0 && isOn((long) x + b, y)) {
                dark[y][x + b] ^= true;
                count++;
            }
        }
        return count;
    }

    int fill(int x, int y, int w, int h, boolean to) {
        int count = 0;
        for (long b = y; b < (long) y + h; b++) {
            for (long a = x; a < (long) x + w; a++) {
                if (isOn(a, b) && dark[(int) b][(int) a] != to) {
                    dark[(int) b][(int) a] = to;
                    count++;
                }
            }
        }
        return count;
    }

    long dots(int x, int y) {
        long bits = 0;
        for (int b = 0; b < 64; b++) {
            if (isOn((long) x + b, y) && dark[y][x + b]) {
                bits |= 1L << b;
            }
        }
        return bits;
    }

    /** A new object with the same sheet; a call for each 64 dots of a row, of the 512 that it has. */
    PlaceFinder copied() {
        PlaceFinder copy = new PlaceFinder();
        copy.sheet(width, height);
        for (int y = 0; y < height; y++) {
            for (int x = 0; x < width; x += 64) {
                copy.turn(x, y, dots(x, y));
            }
        }
        return copy;
    }

    /** 1 for a fixed dark module, 0 for a fixed light one, -1 for another. */
    private static int fixed(int size, int i, int j) {
        int[][] middles = {{3, 3}, {size - 4, 3}, {3, size - 4}};
        for (int[] c : middles) {
            int d = Math.max(Math.abs(i - c[0]), Math.abs(j - c[1]));
            if (d <= 4) {
                return d == 2 || d == 4 ? 0 : 1;
            }
        }
        if (j == 6 && i >= 8 && i <= size - 9) {
            return 1 - i % 2;
        }
        if (i == 6 && j >= 8 && j <= size - 9) {
            return 1 - j % 2;
        }
        return i == 8 && j == size - 8 ? 1 : -1;
    }

    private static int[] block(int size, int q, int i, int j) {
        int e = size - 1;
        int[][] blocks = {{i, j}, {e - j, i}, {e - i, e - j}, {j, e - i}};
        return blocks[q];
    }

    /** Each fixed module of a symbol as its block's a and b, and 1 for dark. */
    private static int[][] fixedBlocks(int v, int q) {
        int size = 17 + 4 * v;
        List<int[]> all = new ArrayList<>();
        for (int j = 0; j < size; j++) {
            for (int i = 0; i < size; i++) {
                if (fixed(size, i, j) >= 0) {
                    int[] b = block(size, q, i, j);
                    all.add(new int[] {b[0], b[1], fixed(size, i, j)});
                }
            }
        }
        return all.toArray(new int[0][]);
    }

    private int wrong(int x, int y, int m, int[][] blocks, int limit) {
        int count = 0;
        for (int[] b : blocks) {
            for (int r = 0; r < m; r++) {
                for (int c = 0; c < m; c++) {
                    if (dark[y + m * b[1] + r][x + m * b[0] + c] != (b[2] == 1)) {
                        count++;
                    }
                }
            }
            if (count > limit) {
                return count;
            }
        }
        return count;
    }

    int wrongDots(int x, int y, int place) {
        return wrong(x, y, place >> 8, fixedBlocks(place >> 2 & 63, place & 3), Integer.MAX_VALUE);
    }

    int draw(int x, int y, int place) {
        int m = place >> 8;
        int count = wrongDots(x, y, place);
        for (int[] b : fixedBlocks(place >> 2 & 63, place & 3)) {
            fill(x + m * b[0], y + m * b[1], m, m, b[2] == 1);
        }
        return count;
    }

    private List<Place> allStanding(int least, int most, int limit) {
        List<Place> all = new ArrayList<>();
        for (int m = least; m <= most; m++) {
            for (int v = 1; v <= 40; v++) {
                int length = m * (17 + 4 * v);
                for (int q = 0; q < 4 && length <= Math.min(width, height); q++) {
                    int[][] blocks = fixedBlocks(v, q);
                    for (int y = 0; y + length <= height; y++) {
                        for (int x = 0; x + length <= width; x++) {
                            int count = wrong(x, y, m, blocks, limit);
                            if (count <= limit) {
                                all.add(new Place(x, y, m, v, q, count));
                            }
                        }
                    }
                    if (all.size() > 300) {
                        return null;
                    }
                }
            }
        }
        return all;
    }

    private static int compare(Place a, Place b) {
        int[] as = {a.y, a.x, a.m, a.v, a.q};
        int[] bs = {b.y, b.x, b.m, b.v, b.q};
        for (int i = 0; i < 5; i++) {
            if (as[i] != bs[i]) {
                return as[i] - bs[i];
            }
        }
        return 0;
    }

    int find(int least, int most, int limit) {
        standing = new ArrayList<>();
        found = new ArrayList<>();
        List<Place> all = allStanding(least, most, limit);
        if (all == null) {
            return -1;
        }
        standing = all;
        for (Place p : all) {
            boolean leads = true;
            for (Place o : all) {
                boolean better = o.wrong < p.wrong || o.wrong == p.wrong && compare(o, p) < 0;
                leads &= !(o.meets(p) && better);
            }
            if (leads) {
                found.add(p);
            }
        }
        found.sort(PlainFinder::compare);
        return found.size();
    }

    int count() {
        return found.size();
    }

    int stood() {
        return standing.size();
    }

    int place(int k, int what) {
        if (k < 0 || k >= found.size()) {
            return -1;
        }
        Place p = found.get(k);
        return new int[] {p.x, p.y, p.m, p.v, p.q, p.wrong}[what];
    }

    long modules(int k, int i, int j) {
        Place p = found.get(k);
        int size = 17 + 4 * p.v;
        long bits = 0;
        for (int b = 0; b < 64; b++) {
            long at = (long) i + b;
            if (at >= 0 && at < size && j >= 0 && j < size) {
                int[] block = block(size, p.q, (int) at, j);
                int count = 0;
                for (int dot = 0; dot < p.m * p.m; dot++) {
                    count += dark[p.y + p.m * block[1] + dot / p.m][p.x + p.m * block[0] + dot % p.m] ? 1 : 0;
                }
                bits |= count * 2 > p.m * p.m ? 1L << b : 0;
            }
        }
        return bits;
    }
}
