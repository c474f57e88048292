/** What the tests share: answers that are due, and a closing line with an exit code. */
final class Check {
    private static final int MOST_SHOWN = 40;

    private static long passed = 0;
    private static long failed = 0;

    private Check() {
    }

    static void due(String call, long got, long want) {
        if (got == want) {
            passed++;
            return;
        }
        failed++;
        if (failed <= MOST_SHOWN) {
            System.out.println(call + " answered " + got + ", due is " + want);
        }
    }

    static void finish(String name) {
        System.out.println(name + ": " + passed + " answers as due, " + failed + " not");
        if (failed != 0 || passed == 0) {
            System.exit(1);
        }
    }

    /** A new object with these words of CODE from 0 on. */
    static FlagCore core(int... words) {
        FlagCore x = new FlagCore();
        for (int i = 0; i < words.length; i++) {
            x.code(i, words[i]);
        }
        return x;
    }

    static void setPair(FlagCore x, int low, int v) {
        x.put(low, v & 255);
        x.put(low + 1, v >> 8);
    }
}
