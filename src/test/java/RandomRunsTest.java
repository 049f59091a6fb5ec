import java.util.Random;

/** All promises: runs of calls by chance, the same each time, against the plain words. */
final class RandomRunsTest {
    private static final int MOST_CALLS = 512;
    private static final int[] LIMITS = {
        0, 0, 1, 3, 10, 20, 33, 40, 60, 75, 80, 90, 96, 97, 98, 99, 100, 103, 105, 106, 132, 150, 200, 300, 396, 423, 424, 500,
    };

    private final Random random;
    private final int run;
    private final PlaceFinder f = new PlaceFinder();
    private final PlainFinder plain = new PlainFinder();
    private int width = 64;
    private int height = 64;
    private int calls = 0;

    private RandomRunsTest(int run) {
        this.run = run;
        random = new Random(run);
    }

    public static void main(String[] args) {
        int runs = args.length > 0 ? Integer.parseInt(args[0]) : 100;
        for (int run = 0; run < runs; run++) {
            new RandomRunsTest(run).small();
        }
        for (int run = 0; run < runs / 15; run++) {
            new RandomRunsTest(1_000_000 + run).great();
        }
        for (int run = 0; run < runs / 15; run++) {
            new RandomRunsTest(2_000_000 + run).middle();
        }
        Check.end();
    }

    /** What an object answers beyond its 512 calls is free. */
    private void due(String what, Check.Call got, Check.Call want) {
        if (calls < MOST_CALLS) {
            calls++;
            Check.equal("run " + run + ": " + what, got.answer(), want.answer());
        }
    }

    private int between(int least, int most) {
        return least + random.nextInt(most - least + 1);
    }

    private void small() {
        if (run % 4 != 0) {
            newSheet(between(21, 90), between(21, 90));
        }
        ground();
        for (int step = 0; step < 12; step++) {
            change(3);
            int least = between(1, 3);
            look(least, between(least, 4), LIMITS[random.nextInt(LIMITS.length)]);
        }
    }

    private void great() {
        newSheet(between(300, 512), between(300, 512));
        // a call for each 64 dots of a row would be more than an object has
        for (int i = between(0, 250); i > 0; i--) {
            fillOne(90);
        }
        for (int step = 0; step < 3; step++) {
            change(16);
            change(16);
            int least = between(8, 16);
            look(least, between(least, 16), random.nextInt(501));
        }
    }

    /** The greatest versions fit with modules of one dot. */
    private void middle() {
        newSheet(between(177, 220), between(177, 220));
        for (int i = between(0, 100); i > 0; i--) {
            fillOne(60);
        }
        for (int i = between(2, 6); i > 0; i--) {
            drawOne(1, 40);
        }
        for (int i = between(0, 20); i > 0; i--) {
            turn(between(-70, width + 3), between(-2, height + 1), random.nextLong() & random.nextLong());
        }
        drawOne(1, 40);
        // with more wrong dots, symbols of one dot a module stand nearly everywhere
        look(1, between(1, 3), between(0, 75));
    }

    private void newSheet(int w, int h) {
        width = w;
        height = h;
        calls++;
        f.sheet(w, h);
        plain.sheet(w, h);
    }

    private void ground() {
        int kind = random.nextInt(6);
        long pattern = random.nextLong();
        for (int y = 0; y < height && kind != 0; y++) {
            for (int x = 0; x < width; x += 64) {
                long noise = random.nextLong();
                turn(x, y, kind == 1 ? -1L : kind == 2 ? noise : kind == 3 ? noise & random.nextLong() & random.nextLong()
                    : kind == 4 ? pattern : 0x5555555555555555L << (y & 1));
            }
        }
    }

    private void turn(int x, int y, long bits) {
        due("turn", () -> f.turn(x, y, bits), () -> plain.turn(x, y, bits));
    }

    private void change(int mostModule) {
        for (int i = between(0, 3); i > 0; i--) {
            fillOne(30);
        }
        for (int i = between(0, 3); i > 0; i--) {
            drawOne(between(1, mostModule), random.nextBoolean() ? 3 : 12);
        }
        for (int i = between(0, 8); i > 0; i--) {
            turn(between(-70, width + 3), between(-2, height + 1), random.nextLong() & random.nextLong() & random.nextLong());
        }
        int x = between(-70, width + 3);
        int y = between(-2, height + 1);
        due("dots", () -> f.dots(x, y), () -> plain.dots(x, y));
    }

    private void fillOne(int longest) {
        int x = between(-20, width);
        int y = between(-20, height);
        int w = between(1, longest);
        int h = between(1, longest);
        boolean dark = random.nextBoolean();
        due("fill", () -> f.fill(x, y, w, h, dark), () -> plain.fill(x, y, w, h, dark));
    }

    private void drawOne(int m, int mostVersion) {
        int v = between(1, mostVersion);
        int length = m * (17 + 4 * v);
        if (length <= width && length <= height) {
            int x = between(0, width - length);
            int y = between(0, height - length);
            int place = Check.packed(m, v, random.nextInt(4));
            due("draw", () -> f.draw(x, y, place), () -> plain.draw(x, y, place));
        }
    }

    private void look(int least, int most, int limit) {
        String what = "find(" + least + ", " + most + ", " + limit + ")";
        due(what, () -> f.find(least, most, limit), () -> plain.find(least, most, limit));
        int count = plain.count();
        due(what + " stood", () -> f.stood(), () -> plain.stood());
        for (int place = -1; place <= count; place++) {
            int k = place;
            for (int number = 0; number < 6; number++) {
                int i = number;
                due(what + " place(" + k + ", " + i + ")", () -> f.place(k, i), () -> plain.place(k, i));
            }
        }
        turn(between(0, width), between(0, height), random.nextLong());
        for (int place = 0; place < count; place++) {
            int k = place;
            int i = between(-70, 60);
            int j = between(-1, 40);
            due(what + " modules", () -> f.modules(k, i, j), () -> plain.modules(k, i, j));
            due(what + " modules", () -> f.modules(k, 0, j), () -> plain.modules(k, 0, j));
        }
    }
}
