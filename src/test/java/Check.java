/** What the tests share: answers that are due, and a closing line with an exit code. */
final class Check {
    private static final int MOST_SHOWN = 40;
    static final int COUNTS = 8, ENDED = 15;

    private static long passed = 0;
    private static long failed = 0;

    private Check() {
    }

    static void due(String call, long got, long want) {
        if (got == want) {
            passed++;
            return;
        }
        failed++;
        if (failed <= MOST_SHOWN) {
            System.out.println(call + " answered " + got + ", due is " + want);
        }
    }

    static void finish(String name) {
        System.out.println(name + ": " + passed + " answers as due, " + failed + " not");
        if (failed != 0 || passed == 0) {
            System.exit(1);
        }
    }

    /** A new object with these words of CODE from 0 on. */
    static FlagCore core(int... words) {
        FlagCore x = new FlagCore();
        for (int i = 0; i < words.length; i++) {
            x.code(i, words[i]);
        }
        return x;
    }

    static void setPair(FlagCore x, int low, int v) {
        x.put(low, v & 255);
        x.put(low + 1, v >> 8);
    }

    /** A new object with these words of CODE from pc on, PC there, and the STACK at 1000. */
    static FlagCore at(int pc, int... words) {
        FlagCore x = new FlagCore();
        for (int i = 0; i < words.length; i++) {
            x.code((pc + i) % 1024, words[i]);
        }
        x.go(pc);
        setPair(x, 93, 1000);
        return x;
    }

    /** What the object tells of itself: told(0 .. 7), count(0 .. 6), ended(), digest(), 19 calls with two words. */
    static long[] state(FlagCore x) {
        long[] state = new long[19];
        for (int what = 0; what <= 7; what++) {
            state[what] = x.told(what);
        }
        for (int what = 0; what <= 6; what++) {
            state[COUNTS + what] = x.count(what);
        }
        state[ENDED] = x.ended();
        state[16] = x.digest();
        state[17] = x.word(0);
        state[18] = x.word(1023);
        return state;
    }

    static void unchanged(String call, FlagCore x, long[] was) {
        due(call + ": what changed first", java.util.Arrays.mismatch(state(x), was), -1);
    }

    /** A call that is BAD: the answer, and that nothing changed. */
    static void refused(String call, FlagCore x, long[] was, int got) {
        due(call, got, FlagCore.BAD);
        unchanged(call, x, was);
    }

    /** A step that is ILLEGAL or BEYOND: it ends so and is counted so, and nothing else changes. */
    static void nothingBut(String call, FlagCore x, int how) {
        long[] was = state(x);
        due(call, x.step(), how);
        was[ENDED] = how;
        was[COUNTS + how]++;
        unchanged(call, x, was);
    }
}
