import java.nio.file.Path;
import java.util.NoSuchElementException;

/** What the tests share: feeding a text, comparing answers, a fixed row of numbers for random runs. */
final class Kit {
    private static int passed = 0;
    private static int failed = 0;

    private Kit() {
    }

    /** The project's folder: .ci/run names it; by hand the tests are run there. */
    static Path root() {
        String named = System.getenv("WALLCHAPELS_ROOT");
        return Path.of(named != null ? named : ".");
    }

    static void same(String what, long got, long due) {
        if (got == due) {
            passed++;
        } else {
            failed++;
            if (failed <= 60) {
                System.out.println("FAILED " + what + ": answered " + got + ", due is " + due);
            }
        }
    }

    static void same(String what, boolean got, boolean due) {
        same(what, got ? 1 : 0, due ? 1 : 0);
    }

    static boolean hasFailed() {
        return failed > 0;
    }

    static void close() {
        System.out.println(passed + " passed, " + failed + " failed");
        if (failed > 0) {
            System.exit(1);
        }
    }

    /** Puts a text on an emptied tape. */
    static void tape(WallChapels x, String text) {
        x.end(0);
        for (int i = 0; i < text.length(); i += 20) {
            int[] words = new int[5];
            for (int k = 0; k < 20; k++) {
                int sign = i + k < text.length() ? text.charAt(i + k) : 0;
                words[k / 4] |= sign << 24 - 8 * (k % 4);
            }
            x.feed(words[0], words[1], words[2], words[3], words[4]);
        }
    }

    static int told(WallChapels x, int sort, String text) {
        tape(x, text);
        return x.text(sort);
    }

    static int faultOf(int sort, String text) {
        WallChapels x = new WallChapels();
        tape(x, text);
        return x.fault(sort);
    }

    static WallChapels town(String text) {
        WallChapels x = new WallChapels();
        same("town " + text, told(x, 0, text) > 0, true);
        return x;
    }

    /** Tells a law and lets it hold. */
    static void hold(WallChapels x, String law) {
        int number = told(x, 1, law);
        same("law " + law, number >= 0, true);
        same("law holds", x.law(number), true);
    }

    static void walkerMissing(WallChapels x, int walker, int what) {
        boolean thrown = false;
        try {
            x.walker(walker, what);
        } catch (NoSuchElementException e) {
            thrown = true;
        }
        same("walker(" + walker + ", " + what + ") throws", thrown, true);
    }

    /** A row of numbers that is the same in every run. */
    static final class Dice {
        private long x;

        Dice(long seed) {
            x = seed * 2862933555777941757L + 3037000493L;
        }

        int roll(int j) {
            x = x * 2862933555777941757L + 3037000493L;
            return (int) ((x >>> 33) % j);
        }

        int between(int least, int most) {
            return least + roll(most - least + 1);
        }

        boolean oneIn(int j) {
            return roll(j) == 0;
        }

        long wide() {
            roll(2);
            return x ^ x >>> 29;
        }
    }
}
