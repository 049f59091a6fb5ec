/** Counts and prints the answers that are not the ones that are due. */
final class Check {
    interface Call {
        long answer();
    }

    private static int wrong = 0;

    private Check() {
    }

    static void equal(String what, long got, long due) {
        if (got != due) {
            wrong++;
            System.out.println(what + " answered " + got + ", due is " + due);
        }
    }

    /** The very class is due, not one below it: the machine's own exceptions lie below these. */
    static void thrown(String what, Class<? extends RuntimeException> due, Call call) {
        try {
            long got = call.answer();
            wrong++;
            System.out.println(what + " answered " + got + ", due is " + due.getName());
        } catch (RuntimeException e) {
            if (e.getClass() != due) {
                wrong++;
                System.out.println(what + " threw " + e.getClass().getName() + ", due is " + due.getName());
            }
        }
    }

    static void illegal(String what, Call call) {
        thrown(what, IllegalArgumentException.class, call);
    }

    /** The number that draw() takes. */
    static int packed(int m, int v, int q) {
        return m << 8 | v << 2 | q;
    }

    static void end() {
        System.out.println(wrong == 0 ? "all answers are as due" : wrong + " answers are not as due");
        if (wrong != 0) {
            System.exit(1);
        }
    }
}
