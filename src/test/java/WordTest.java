/** Promise 13, and promise 10 for what is ILLEGAL: every word against the document's patterns. */
public final class WordTest {
    private static void everyWordIsRead() {
        FlagCore x = new FlagCore();
        int calls = 0;
        for (int w = 0; w < 65536; w++) {
            if (calls + 2 > 512) {
                x = new FlagCore();
                calls = 0;
            }
            calls += 2;
            Check.due("reads(" + w + ", 0)", x.reads(w, 0), Patterns.name(w) == null ? 1 : 0);
            Check.due("reads(" + w + ", 1)", x.reads(w, 1), Patterns.hasNext(w) ? 1 : 0);
        }
    }

    private static void everyIllegalWordChangesNothing() {
        for (int w = 0; w < 65536; w++) {
            FlagCore x = Check.core(w);
            boolean illegal = Patterns.name(w) == null;
            int was = illegal ? x.digest() : 0;
            int how = x.step();
            if (illegal) {
                Check.due("step() of " + w, how, FlagCore.ILLEGAL);
                Check.due("digest() behind " + w, x.digest(), was);
                Check.due("count(2) behind " + w, x.count(2), 1);
            } else {
                Check.due("step() of " + w + " is ILLEGAL", how == FlagCore.ILLEGAL ? 1 : 0, 0);
            }
        }
    }

    private static void someWordsByHand() {
        FlagCore x = new FlagCore();
        int[] illegal = {
            1, 255, 0x9003, 0x9006, 0x9007, 0x9008, 0x900B, 0x9204, 0x9205, 0x9206, 0x9207, 0x9208, 0x920B,
            0x9404, 0x940B, 0x9419, 0x9429, 0x9519, 0x9528, 0x9588, 0x9598, 0x95A8, 0x95D8, 0x95E8, 0x95F8,
            0x91E1, 0x91F1, 0x91E2, 0x91F2, 0x93E1, 0x93F2, 0x91C9, 0x91D9, 0x93CA, 0x93DA,
            0x91AD, 0x91BD, 0x93AE, 0x93BE, 0x91E5, 0x91F5, 0xF808, 0xFA08, 0xFC08, 0xFE08, 0xFFFF
        };
        for (int w : illegal) {
            Check.due("reads(" + w + ", 0)", x.reads(w, 0), 1);
            Check.due("reads(" + w + ", 1)", x.reads(w, 1), 0);
        }
        int[] fine = {
            0, 256, 0x91AC, 0x91BC, 0x93AC, 0x93BC, 0x91E4, 0x91F4, 0x81E0, 0x83F0, 0x81C8, 0x83D8, 0x91DF, 0x93FF,
            0x91C1, 0x91E9, 0x91E0, 0x93A0, 0x95C8, 0x9408, 0x94F8, 0x9478, 0x9508, 0x9518, 0x9409, 0x9509
        };
        for (int w : fine) {
            Check.due("reads(" + w + ", 0)", x.reads(w, 0), 0);
        }
        int[] two = {0x9000, 0x91F0, 0x9200, 0x93F0, 0x940C, 0x95FD, 0x940E, 0x95FF};
        for (int w : two) {
            Check.due("reads(" + w + ", 0)", x.reads(w, 0), 0);
            Check.due("reads(" + w + ", 1)", x.reads(w, 1), 1);
        }
    }

    private static void wrongNumbersAreRefused() {
        FlagCore x = new FlagCore();
        for (int w : new int[] {-1, 65536, 65536 + 0x9000, Integer.MAX_VALUE, Integer.MIN_VALUE}) {
            Check.due("reads(" + w + ", 0)", x.reads(w, 0), FlagCore.BAD);
            Check.due("reads(" + w + ", 1)", x.reads(w, 1), FlagCore.BAD);
        }
        for (int what : new int[] {-1, 2, Integer.MAX_VALUE, Integer.MIN_VALUE}) {
            Check.due("reads(0, " + what + ")", x.reads(0, what), FlagCore.BAD);
        }
    }

    public static void main(String[] args) {
        everyWordIsRead();
        everyIllegalWordChangesNothing();
        someWordsByHand();
        wrongNumbersAreRefused();
        Check.finish("WordTest");
    }
}
