/** Counts and prints the answers that are not the ones that are due. */
final class Check {
    interface Call {
        long answer();
    }

    private static int wrong = 0;

    private Check() {
    }

    static void equal(String what, long got, long due) {
        if (got != due) {
            wrong++;
            System.out.println(what + " answered " + got + ", due is " + due);
        }
    }

    /** The very class is due, not one below it: the machine's own exceptions lie below these. */
    static void thrown(String what, Class<? extends RuntimeException> due, Call call) {
        try {
            long got = call.answer();
            wrong++;
            System.out.println(what + " answered " + got + ", due is " + due.getName());
        } catch (RuntimeException e) {
            if (e.getClass() != due) {
                wrong++;
                System.out.println(what + " threw " + e.getClass().getName() + ", due is " + due.getName());
            }
        }
    }

    static void illegal(String what, Call call) {
        thrown(what, IllegalArgumentException.class, call);
    }

    static void outOfBounds(String what, Call call) {
        thrown(what, IndexOutOfBoundsException.class, call);
    }

    static void placeIs(String what, PlaceFinder f, int k, int... due) {
        for (int i = 0; i < due.length; i++) {
            equal(what + ": place(" + k + ", " + i + ")", f.place(k, i), due[i]);
        }
    }

    /** The three methods that tell what was found say that nothing is. */
    static void nothingFound(String what, PlaceFinder f) {
        equal(what + ": stood()", f.stood(), 0);
        for (int i = 0; i < 6; i++) {
            equal(what + ": place(0, " + i + ")", f.place(0, i), PlaceFinder.NONE);
        }
        outOfBounds(what + ": modules(0, 0, 0)", () -> f.modules(0, 0, 0));
    }

    /** By one call, as an object has but 512: so the sheet is dark afterwards. */
    static void allLight(String what, PlaceFinder f, int width, int height) {
        equal(what + ": light dots", f.fill(0, 0, 512, 512, true), width * height);
    }

    /** By one call too: the sheet is light afterwards. */
    static void darkDots(String what, PlaceFinder f, int due) {
        equal(what + ": dark dots", f.fill(0, 0, 512, 512, false), due);
    }

    /** All that an object tells, of a sheet that is 64 dots wide at most, in one text. */
    static String state(PlaceFinder f, int height) {
        StringBuilder text = new StringBuilder();
        for (int y = 0; y < height; y++) {
            text.append(Long.toHexString(f.dots(0, y))).append('\n');
        }
        text.append("stood ").append(f.stood()).append('\n');
        for (int k = 0; f.place(k, 0) != PlaceFinder.NONE; k++) {
            for (int what = 0; what < 6; what++) {
                text.append(f.place(k, what)).append(' ');
            }
            text.append(Long.toHexString(f.modules(k, 0, 0))).append('\n');
        }
        return text.toString();
    }

    static void same(String what, String got, String due) {
        if (!got.equals(due)) {
            wrong++;
            System.out.println(what + ": got\n" + got + "due is\n" + due);
        }
    }

    /** The number that draw() takes. */
    static int packed(int m, int v, int q) {
        return m << 8 | v << 2 | q;
    }

    static void end() {
        System.out.println(wrong == 0 ? "all answers are as due" : wrong + " answers are not as due");
        if (wrong != 0) {
            System.exit(1);
        }
    }
}
