/** Promise 10, the sums: each word of registers for all bytes that it may meet, against Model. */
public final class SumTest {
    private static final String[] OF_TWO = {
        "CPC", "SBC", "ADD", "CP", "SUB", "ADC", "AND", "EOR", "OR", "MOV", "MUL", "CPSE"
    };
    private static final String[] OF_TWO_HIGH = {"MULS", "MULSU", "FMUL", "FMULS", "FMULSU"};
    private static final String[] WITH_NUMBER = {"CPI", "SBCI", "SUBI", "ORI", "ANDI", "LDI"};
    private static final String[] OF_ONE = {"COM", "NEG", "SWAP", "INC", "DEC", "ASR", "LSR", "ROR"};
    private static final int[] FLAGS = {0, 255, 1, 2, 0xFC, 0xFD};
    private static final int CALLS_OF_ONE = 8;

    private static FlagCore x = new FlagCore();
    private static int calls = 0;
    private static final Model M = new Model();

    /** One step with what it needs; all that it changes is compared. */
    private static void one(int w, int flags, int d, int a, int r, int b) {
        if (calls + CALLS_OF_ONE > 512) {
            x = new FlagCore();
            M.data = new int[1024];
            calls = 0;
        }
        calls += CALLS_OF_ONE;
        x.code(0, w);
        x.go(0);
        x.put(r, b);
        x.put(d, a);
        x.put(95, flags);
        M.code[0] = w;
        M.pc = 0;
        M.data[r] = b;
        M.data[d] = a;
        M.data[95] = flags;
        String call = Patterns.name(w) + " of " + a + ", " + b + ", flags " + flags;
        Check.due(call, x.step(), M.step());
        Check.due(call + ": FLAGS", x.data(95), M.data[95]);
        Check.due(call + ": digest", x.digest(), M.digest());
    }

    private static void all(String[] names, char letter, int d, char other, int r, int low) {
        for (String name : names) {
            int w = Patterns.word(name, letter, d - low, other, r - low);
            for (int a = 0; a < 256; a++) {
                for (int b = 0; b < 256; b += b % 16 > 1 && b % 16 < 14 ? 3 : 1) {
                    one(w, FLAGS[(a + b) % FLAGS.length], d, a, r, b);
                }
            }
            one(w, 0, d, 128, d, 128);
            one(w, 2, d, 0, r, 255);
            one(w, 3, d, 0, r, 255);
        }
    }

    private static void withNumbers() {
        for (String name : WITH_NUMBER) {
            for (int k = 0; k < 256; k += 3) {
                int d = 16 + k % 16;
                int w = Patterns.word(name, 'D', d - 16, 'K', k);
                for (int a = 0; a < 256; a += a % 16 > 1 && a % 16 < 14 ? 3 : 1) {
                    one(w, FLAGS[(a + k) % FLAGS.length], d, a, 0, 0);
                }
            }
        }
    }

    private static void ofOne() {
        for (String name : OF_ONE) {
            for (int a = 0; a < 256; a++) {
                for (int flags : FLAGS) {
                    one(Patterns.word(name, 'd', a % 32), flags, a % 32, a, a % 32, a);
                }
            }
        }
    }

    private static void ofPairs() {
        for (String name : new String[] {"ADIW", "SBIW"}) {
            for (int whole = 0; whole < 65536; whole += whole % 256 < 70 || whole % 256 > 190 ? 31 : 97) {
                int low = 24 + 2 * (whole % 4);
                int w = Patterns.word(name, 'p', whole % 4, 'K', whole % 64);
                one(w, FLAGS[whole % FLAGS.length], low, whole % 256, low + 1, whole / 256);
            }
            for (int edge : new int[] {0, 1, 62, 63, 64, 32704, 32705, 32767, 32768, 32830, 65472, 65473, 65535}) {
                for (int k : new int[] {0, 1, 31, 32, 62, 63}) {
                    one(Patterns.word(name, 'p', 3, 'K', k), 0x3C, 30, edge % 256, 31, edge / 256);
                }
            }
        }
    }

    /** What the document's own words tell, worked out by hand: word, flags ahead, a, b, result, flags. */
    private static void byHand() {
        int[][] rows = {
            {0x0F01, 0, 200, 100, 44, 1}, {0x0F01, 0x40, 127, 1, 128, 0x40 + 8 + 4 + 32},
            {0x0F01, 0, 128, 128, 0, 1 + 2 + 8 + 16}, {0x1F01, 1, 255, 0, 0, 1 + 2 + 32},
            {0x1B01, 0, 0, 1, 255, 1 + 4 + 16 + 32}, {0x1B01, 1, 5, 5, 0, 2}, {0x1B01, 0, 128, 1, 127, 8 + 16 + 32},
            {0x0B01, 1, 1, 0, 0, 0}, {0x0B01, 3, 1, 0, 0, 2}, {0x0B01, 2, 1, 0, 1, 0},
            {0x0701, 3, 7, 6, 7, 2}, {0x1701, 0, 7, 8, 7, 1 + 4 + 16 + 32},
            {0x2301, 0x29, 0xF0, 0x8F, 0x80, 0x21 + 4 + 16}, {0x2701, 0x29, 0x55, 0x55, 0, 0x21 + 2},
            {0x2B01, 8, 0x50, 0x05, 0x55, 0}, {0x2F01, 0xFF, 1, 9, 9, 0xFF},
            {0x9500, 0x28, 0, 0, 255, 0x20 + 1 + 4 + 16}, {0x9501, 0, 0, 0, 0, 2}, {0x9501, 0, 1, 0, 255, 0x35},
            {0x9502, 0xFF, 0x12, 0, 0x21, 0xFF}, {0x9503, 1, 127, 0, 128, 1 + 4 + 8}, {0x9503, 0, 255, 0, 0, 2},
            {0x950A, 1, 128, 0, 127, 1 + 8 + 16}, {0x950A, 0, 1, 0, 0, 2}, {0x950A, 0, 0, 0, 255, 4 + 16},
            {0x9505, 0, 0x81, 0, 0xC0, 1 + 4 + 16}, {0x9505, 0, 0x80, 0, 0xC0, 4 + 8},
            {0x9506, 0, 1, 0, 0, 1 + 2 + 8 + 16}, {0x9507, 1, 0, 0, 0x80, 4 + 8}, {0x9507, 1, 1, 0, 0x80, 1 + 4 + 16},
        };
        for (int[] row : rows) {
            FlagCore c = Check.core(row[0]);
            c.put(95, row[1]);
            c.put(16, row[2]);
            c.put(17, row[3]);
            String call = "by hand " + Integer.toHexString(row[0]) + " of " + row[2] + ", " + row[3];
            Check.due(call, c.step(), FlagCore.DONE);
            Check.due(call + ": R16", c.data(16), row[4]);
            Check.due(call + ": FLAGS", c.told(2), row[5]);
            Check.due(call + ": PC", c.told(0), 1);
        }
    }

    public static void main(String[] args) {
        byHand();
        all(OF_TWO, 'd', 9, 'r', 22, 0);
        all(OF_TWO, 'd', 30, 'r', 1, 0);
        all(OF_TWO_HIGH, 'D', 17, 'R', 22, 16);
        ofOne();
        withNumbers();
        ofPairs();
        Check.finish("SumTest");
    }
}
