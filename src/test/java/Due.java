/** Compares answers with those that are due, and ends a test with exit code 1 if one was wrong. */
final class Due {
    private static int wrong = 0;

    private Due() {
    }

    static void same(String call, long got, long want) {
        if (got != want) {
            wrong++;
            System.out.println(call + " answered " + got + ", due is " + want);
        }
    }

    static void text(String call, String got, String want) {
        if (!got.equals(want)) {
            wrong++;
            System.out.println(call + " were " + got + ", due is " + want);
        }
    }

    static void yes(String call, boolean got) {
        same(call, got ? 1 : 0, 1);
    }

    static void no(String call, boolean got) {
        same(call, got ? 1 : 0, 0);
    }

    /** The class must be the very one: IndexOutOfBoundsException has subclasses that the machine throws. */
    static void thrown(String call, Class<? extends RuntimeException> want, Runnable made) {
        try {
            made.run();
        } catch (RuntimeException e) {
            if (e.getClass() != want) {
                wrong++;
                System.out.println(call + " threw " + e + ", due is " + want.getName());
            }
            return;
        }
        wrong++;
        System.out.println(call + " threw nothing, due is " + want.getName());
    }

    static void illegalArgument(String call, Runnable made) {
        thrown(call, IllegalArgumentException.class, made);
    }

    static void illegalState(String call, Runnable made) {
        thrown(call, IllegalStateException.class, made);
    }

    static void outOfBounds(String call, Runnable made) {
        thrown(call, IndexOutOfBoundsException.class, made);
    }

    static void end() {
        if (wrong > 0) {
            System.out.println(wrong + " wrong");
            System.exit(1);
        }
    }
}
