/** The document's boundary cases of results and their FLAGS, sentence by sentence, worked out by hand. */
public final class SumEdgesTest {
    private static final int C = 1, Z = 2, N = 4, V = 8, S = 16, H = 32, T = 64, I = 128;
    /** Words of R16 and R17. */
    private static final int CPC = 0x0701, SBC = 0x0B01, ADD = 0x0F01, CP = 0x1701, SUB = 0x1B01, ADC = 0x1F01;
    private static final int AND = 0x2301, EOR = 0x2701, OR = 0x2B01, MOV = 0x2F01;
    /** Words of R16 alone. */
    private static final int COM = 0x9500, NEG = 0x9501, SWAP = 0x9502, INC = 0x9503, ASR = 0x9505, LSR = 0x9506;
    private static final int ROR = 0x9507, DEC = 0x950A;

    /** One step with these FLAGS ahead, a in R16, b in R17: R16 and FLAGS behind it. */
    private static void one(String sentence, int w, int ahead, int a, int b, int x, int flags) {
        FlagCore core = Check.at(7, w);
        core.put(95, ahead);
        core.put(16, a);
        core.put(17, b);
        String call = sentence + ": " + Patterns.name(w) + " of " + a + ", " + b + ", FLAGS " + ahead;
        Check.due(call, core.step(), FlagCore.DONE);
        Check.due(call + ": R16", core.data(16), x);
        Check.due(call + ": R17", core.data(17), b);
        Check.due(call + ": FLAGS", core.told(2), flags);
        Check.due(call + ": PC", core.told(0), 8);
    }

    /** The same with the number in the word: d' is R16. */
    private static int withNumber(String name, int k) {
        return Patterns.word(name, 'D', 0, 'K', k);
    }

    // "Z: x is 0"
    private static void zIsOneForNothing() {
        one("Z", ADD, 0, 0, 0, 0, Z);
        one("Z", ADD, Z, 0, 1, 1, 0);
        one("Z", ADD, 0, 255, 1, 0, C | Z | H);
        one("Z", SUB, 0, 7, 7, 0, Z);
        one("Z", SUB, Z, 8, 7, 1, 0);
        one("Z", AND, 0, 0xF0, 0x0F, 0, Z);
        one("Z", OR, 0, 0, 0, 0, Z);
        one("Z", DEC, 0, 1, 0, 0, Z);
        one("Z", NEG, 0, 0, 0, 0, Z);
        one("Z", COM, 0, 255, 0, 0, C | Z);
    }

    // "N: its bit 7"
    private static void nIsBitSeven() {
        one("N", ADD, 0, 100, 27, 127, 0);
        one("N", OR, 0, 127, 0, 127, 0);
        one("N", OR, 0, 128, 0, 128, N | S);
        one("N", OR, N | S, 127, 1, 127, 0);
        one("N", SUB, 0, 255, 127, 128, N | S);
        one("N", SUB, 0, 255, 128, 127, 0);
    }

    // "S: N or V, not both"
    private static void sIsOneOfBoth() {
        one("S, none", ADD, S, 1, 1, 2, 0);
        one("S, N", ADD, 0, 255, 255, 254, C | N | S | H);
        one("S, V", ADD, 0, 128, 129, 1, C | V | S);
        one("S, both", ADD, S, 64, 64, 128, N | V);
    }

    // "Of a sum a + b (+ C): C .. what goes beyond bit 7"
    private static void cOfASum() {
        one("C", ADD, 0, 240, 15, 255, N | S);
        one("C", ADD, 0, 240, 16, 0, C | Z);
        one("C", ADC, C, 240, 15, 0, C | Z | H);
        one("C", ADC, C, 240, 14, 255, N | S);
        one("C", ADC, C, 255, 255, 255, C | N | S | H);
        one("C ahead is not in", ADD, C, 240, 15, 255, N | S);
    }

    // "Of a sum a + b (+ C): .. H: what goes beyond .. bit 3"
    private static void hOfASum() {
        one("H", ADD, H, 8, 7, 15, 0);
        one("H", ADD, 0, 8, 8, 16, H);
        one("H", ADC, C, 8, 7, 16, H);
        one("H", ADC, C, 8, 6, 15, 0);
        one("H", ADC, C | H, 15, 15, 31, H);
        one("H of the low halves alone", ADD, 0, 0x70, 0x0F, 0x7F, 0);
    }

    // "Of a sum: .. V: a, b have one bit 7, x the other"
    private static void vOfASum() {
        one("V", ADD, V, 127, 0, 127, 0);
        one("V", ADD, 0, 127, 1, 128, N | V | H);
        one("V", ADC, C, 127, 0, 128, N | V | H);
        one("V", ADD, 0, 128, 128, 0, C | Z | V | S);
        one("V", ADD, 0, 128, 255, 127, C | V | S);
        one("V, unlike bits 7", ADD, 0, 128, 127, 255, N | S);
        one("V, unlike bits 7", ADD, 0, 127, 128, 255, N | S);
        one("V, unlike bits 7", ADC, C, 127, 128, 0, C | Z | H);
        one("V, all three", ADC, C, 128, 255, 128, C | N | S | H);
    }

    // "Of a difference a - b (- C): C .. what is borrowed for bit 7"
    private static void cOfADifference() {
        for (int w : new int[] {CP, SUB}) {
            one("C", w, C, 5, 5, w == CP ? 5 : 0, Z);
            one("C", w, 0, 16, 32, w == CP ? 16 : 240, C | N | S);
            one("C ahead is not in", w, C, 32, 16, w == CP ? 32 : 16, 0);
        }
        for (int w : new int[] {CPC, SBC}) {
            one("C", w, 0, 16, 16, w == CPC ? 16 : 0, 0);
            one("C", w, C, 16, 16, w == CPC ? 16 : 255, C | N | S | H);
            one("C", w, C, 0, 255, 0, C | H);
            one("C", w, C, 255, 254, w == CPC ? 255 : 0, 0);
        }
    }

    // "Of a difference: .. H: what is borrowed for .. bit 3"
    private static void hOfADifference() {
        one("H", SUB, H, 0x17, 0x07, 0x10, 0);
        one("H", SUB, 0, 0x17, 0x08, 0x0F, H);
        one("H", SBC, C, 0x17, 0x07, 0x0F, H);
        one("H", SBC, C, 0x17, 0x06, 0x10, 0);
        one("H", SBC, C, 0x10, 0x0F, 0, H);
        one("H of the low halves alone", SUB, 0, 0x10, 0x20, 0xF0, C | N | S);
    }

    // "Of a difference: .. V: a, b have unlike bits 7, x that of b"
    private static void vOfADifference() {
        one("V", SUB, V, 129, 1, 128, N | S);
        one("V", SUB, 0, 128, 1, 127, V | S | H);
        one("V", SUB, 0, 127, 255, 128, C | N | V);
        one("V", SUB, 0, 127, 128, 255, C | N | V);
        one("V", SUB, 0, 0, 128, 128, C | N | V);
        one("V, x that of a", SUB, V, 255, 127, 128, N | S);
        one("V, like bits 7", SUB, V, 128, 255, 129, C | N | S | H);
        one("V, like bits 7", SUB, V, 1, 2, 255, C | N | S | H);
        one("V", SBC, C, 128, 0, 127, V | S | H);
    }

    // "Z stays 0": Z is 1 only if it was ahead, too.
    private static void zStaysNothing() {
        int[] words = {CPC, SBC, withNumber("SBCI", 9)};
        for (int w : words) {
            int zero = w == CPC ? 9 : 0;
            one("Z was 0, x is 0", w, 0, 9, 9, zero, 0);
            one("Z was 1, x is 0", w, Z, 9, 9, zero, Z);
            one("Z was 1, x is 0 by C", w, Z | C, 10, 9, w == CPC ? 10 : 0, Z);
            one("Z was 0, x is not", w, 0, 10, 9, w == CPC ? 10 : 1, 0);
            one("Z was 1, x is not", w, Z, 10, 9, w == CPC ? 10 : 1, 0);
        }
        one("Z of one that does not stay", CP, 0, 9, 9, 9, Z);
        one("Z of one that does not stay", withNumber("CPI", 9), 0, 9, 9, 9, Z);
        one("Z of one that does not stay", withNumber("SUBI", 9), 0, 9, 9, 0, Z);
        one("Z of one that does not stay", ADC, 0, 0, 0, 0, Z);
    }

    // "Others stay."
    private static void othersStay() {
        for (int w : new int[] {CPC, SBC, ADD, CP, SUB, ADC, NEG}) {
            one("T, I stay", w, T | I | Z, 0, 0, 0, T | I | Z);
            one("T, I stay", w, Z, 0, 0, 0, Z);
        }
        for (int w : new int[] {AND, EOR, OR}) {
            one("C, H, T, I stay; V 0", w, 255, 0, 0, 0, C | Z | H | T | I);
            one("C, H, T, I stay; V 0", w, V, 0, 0, 0, Z);
        }
        for (int k : new int[] {0, 255}) {
            one("C, H, T, I stay; V 0", withNumber("ORI", k), 255, 0, 0, k, C | H | T | I | (k == 0 ? Z : N | S));
            one("C, H, T, I stay; V 0", withNumber("ANDI", k), V, 128, 0, k & 128, k == 0 ? Z : N | S);
        }
        one("H, T, I stay; V 0, C 1", COM, 255, 255, 0, 0, C | Z | H | T | I);
        one("H, T, I stay; V 0, C 1", COM, 0, 0, 0, 255, C | N | S);
        for (int w : new int[] {INC, DEC}) {
            one("C, H, T, I stay", w, 255, 9, 0, w == INC ? 10 : 8, C | H | T | I);
            one("C, H, T, I stay", w, 0, 9, 0, w == INC ? 10 : 8, 0);
        }
        for (int w : new int[] {ASR, LSR, ROR}) {
            one("H, T, I stay", w, 255 - C, 2, 0, 1, H | T | I);
            one("H, T, I stay", w, 0, 2, 0, 1, 0);
        }
        for (int w : new int[] {SWAP, MOV, withNumber("LDI", 0x21)}) {
            one("all stay", w, 255, 0x12, 0x21, 0x21, 255);
            one("all stay", w, 0, 0x12, 0x21, 0x21, 0);
        }
    }

    // "0010 00 and, 0010 01 one of both, 0010 10 or: into d, with Z, N, V 0, S"; "0110 or; 0111 and"
    private static void bitByBit() {
        one("and", AND, 0, 0xCC, 0xAA, 0x88, N | S);
        one("one of both", EOR, 0, 0xCC, 0xAA, 0x66, 0);
        one("or", OR, 0, 0xCC, 0xAA, 0xEE, N | S);
        one("or", withNumber("ORI", 0x2A), 0, 0x4C, 0, 0x6E, 0);
        one("and", withNumber("ANDI", 0xAA), 0, 0xCC, 0, 0x88, N | S);
    }

    // "one more (.. V: it becomes 128)"; "one less (V: it becomes 127)"
    private static void oneMoreAndOneLess() {
        one("one more", INC, 0, 126, 0, 127, 0);
        one("one more", INC, 0, 127, 0, 128, N | V);
        one("one more", INC, 0, 128, 0, 129, N | S);
        one("one more goes round", INC, 0, 255, 0, 0, Z);
        one("one more", INC, V, 0, 0, 1, 0);
        one("one less", DEC, 0, 129, 0, 128, N | S);
        one("one less", DEC, 0, 128, 0, 127, V | S);
        one("one less", DEC, V, 127, 0, 126, 0);
        one("one less goes round", DEC, 0, 0, 0, 255, N | S);
    }

    // "0001 0 - d into d": a difference, its borrows and its one V.
    private static void fromNothing() {
        one("0 - d", NEG, C | H, 0, 0, 0, Z);
        one("0 - d", NEG, 0, 1, 0, 255, C | N | S | H);
        one("0 - d", NEG, 0, 16, 0, 240, C | N | S);
        one("0 - d", NEG, 0, 127, 0, 129, C | N | S | H);
        one("0 - d", NEG, 0, 128, 0, 128, C | N | V);
        one("0 - d, C ahead is not in", NEG, C, 255, 0, 1, C | H);
        one("0 - d, Z ahead is not in", NEG, 0, 0, 0, 0, Z);
    }

    // "RIGHT by one, bit 0 to C, Z, N, V (N or C, not both), S: 0101 bit 7 stays, 0110 0 comes in, 0111 C comes in."
    private static void rightByOne() {
        one("bit 7 stays", ASR, 0, 128, 0, 192, N | V);
        one("bit 7 stays", ASR, 0, 129, 0, 192, C | N | S);
        one("bit 7 stays", ASR, C, 126, 0, 63, 0);
        one("bit 7 stays", ASR, 0, 1, 0, 0, C | Z | V | S);
        one("bit 7 stays", ASR, C, 0, 0, 0, Z);
        one("0 comes in", LSR, C, 128, 0, 64, 0);
        one("0 comes in", LSR, 0, 255, 0, 127, C | V | S);
        one("0 comes in", LSR, C, 1, 0, 0, C | Z | V | S);
        one("C comes in", ROR, C, 0, 0, 128, N | V);
        one("C comes in", ROR, 0, 0, 0, 0, Z);
        one("C comes in", ROR, C, 1, 0, 128, C | N | S);
        one("C comes in", ROR, 0, 1, 0, 0, C | Z | V | S);
        one("C comes in", ROR, C, 255, 0, 255, C | N | S);
    }

    /** One step on a pair: what stands in it and FLAGS behind it. */
    private static void pair(String name, int p, int k, int a, int ahead, int x, int flags) {
        FlagCore core = Check.core(Patterns.word(name, 'p', p, 'K', k));
        Check.setPair(core, 24 + 2 * p, a);
        core.put(95, ahead);
        String call = name + " of pair " + p + ", " + a + " and " + k;
        Check.due(call, core.step(), FlagCore.DONE);
        Check.due(call + ": low", core.data(24 + 2 * p), x & 255);
        Check.due(call + ": high", core.data(25 + 2 * p), x >> 8);
        Check.due(call + ": FLAGS", core.told(2), flags);
        for (int place = 22; place < 34; place++) {
            if (place >> 1 != 12 + p) {
                Check.due(call + ": R" + place + " stays", core.data(place), 0);
            }
        }
    }

    // "the pair R24 + 2p (16 bits) K more ..: Z, N (bit 15), S; more: V: bit 15 comes, C: it goes"
    private static void pairsMore() {
        for (int p = 0; p < 4; p++) {
            pair("ADIW", p, 0, 0, C | N | V | S, 0, Z);
            pair("ADIW", p, 63, 32704, 0, 32767, 0);
            pair("ADIW", p, 63, 32705, 0, 32768, N | V);
            pair("ADIW", p, 1, 32767, 0, 32768, N | V);
            pair("ADIW", p, 0, 32768, 0, 32768, N | S);
            pair("ADIW", p, 63, 65472, 0, 65535, N | S);
            pair("ADIW", p, 63, 65473, 0, 0, C | Z);
            pair("ADIW", p, 63, 65535, 0, 62, C);
            pair("ADIW", p, 1, 255, 0, 256, 0);
            pair("ADIW", p, 32, 0, 0, 32, 0);
            pair("ADIW", p, 0, 128, 0, 128, 0);
            pair("ADIW", p, 1, 127, 0, 128, 0);
            pair("ADIW", p, 1, 32512, 0, 32513, 0);
            pair("ADIW", p, 0, 256, H | T | I, 256, H | T | I);
        }
    }

    // "0111 K less: Z, N (bit 15), S; .. less: V: it goes, C: it comes"
    private static void pairsLess() {
        for (int p = 0; p < 4; p++) {
            pair("SBIW", p, 0, 0, C | N | V | S, 0, Z);
            pair("SBIW", p, 63, 63, 0, 0, Z);
            pair("SBIW", p, 63, 62, 0, 65535, C | N | S);
            pair("SBIW", p, 1, 0, 0, 65535, C | N | S);
            pair("SBIW", p, 63, 32831, 0, 32768, N | S);
            pair("SBIW", p, 63, 32830, 0, 32767, V | S);
            pair("SBIW", p, 1, 32768, 0, 32767, V | S);
            pair("SBIW", p, 1, 32767, 0, 32766, 0);
            pair("SBIW", p, 1, 256, 0, 255, 0);
            pair("SBIW", p, 1, 128, 0, 127, 0);
            pair("SBIW", p, 0, 65535, H | T | I, 65535, N | S | H | T | I);
            for (int k = 0; k < 64; k++) {
                pair("ADIW", p, k, 1000, 0, 1000 + k, 0);
                pair("SBIW", p, k, 1000, 0, 1000 - k, 0);
            }
        }
    }

    /** One product: R1, R0 and FLAGS behind it. */
    private static void product(String name, int a, int b, int x, int ahead, int flags) {
        int w = name.equals("MUL") ? 0x9F01 : Patterns.word(name, 'D', 0, 'R', 1);
        FlagCore core = Check.core(w);
        core.put(16, a);
        core.put(17, b);
        core.put(95, ahead);
        String call = name + " of " + a + ", " + b;
        Check.due(call, core.step(), FlagCore.DONE);
        Check.due(call + ": R0", core.data(0), x & 255);
        Check.due(call + ": R1", core.data(1), x >> 8);
        Check.due(call + ": R16", core.data(16), a);
        Check.due(call + ": R17", core.data(17), b);
        Check.due(call + ": FLAGS", core.told(2), flags);
    }

    // "PRODUCTS of 16 bits to R1 (high), R0; C its bit 15, Z whether it is 0": without sign, with, the first with sign
    private static void products() {
        int others = 255 - C - Z;
        product("MUL", 255, 255, 65025, 0, C);
        product("MUL", 128, 255, 32640, C, 0);
        product("MUL", 129, 255, 32895, 255, others | C);
        product("MUL", 0, 255, 0, others, 255 - C);
        product("MUL", 16, 16, 256, Z, 0);
        product("MULS", 128, 128, 16384, 0, 0);
        product("MULS", 128, 127, 65536 - 16256, 0, C);
        product("MULS", 127, 128, 65536 - 16256, 0, C);
        product("MULS", 127, 127, 16129, 255, others);
        product("MULS", 255, 255, 1, 0, 0);
        product("MULS", 255, 1, 65535, 0, C);
        product("MULS", 255, 0, 0, C, Z);
        product("MULSU", 128, 255, 65536 - 32640, 0, C);
        product("MULSU", 127, 255, 32385, 255, others);
        product("MULSU", 255, 255, 65536 - 255, 0, C);
        product("MULSU", 0, 255, 0, C, Z);
    }

    // "FRACTIONS: C bit 15 of the product, then it goes one to the left (16 bits), Z of that"
    private static void fractions() {
        int others = 255 - C - Z;
        product("FMUL", 255, 255, 130050 - 65536, 0, C);
        product("FMUL", 128, 255, 65280, C, 0);
        product("FMUL", 128, 128, 32768, 255, others);
        product("FMUL", 0, 128, 0, C, Z);
        product("FMULS", 128, 128, 32768, C, 0);
        product("FMULS", 128, 127, 65536 - 32512, 0, C);
        product("FMULS", 127, 127, 32258, 255, others);
        product("FMULS", 255, 255, 2, 0, 0);
        product("FMULS", 0, 255, 0, 0, Z);
        product("FMULSU", 128, 255, 131072 - 65280 - 65536, 0, C);
        product("FMULSU", 127, 255, 64770, 255, others);
        product("FMULSU", 255, 1, 65534, 0, C);
        product("FMULSU", 255, 0, 0, C, Z);
    }

    // "d' 16 and d (4 bits: R16 .. R31; 3 bits: R16 .. R23)"; "d register d": the first and the last of each.
    private static void firstAndLastRegisters() {
        String[] few = {"MULSU", "FMUL", "FMULS", "FMULSU"};
        for (String name : few) {
            registers(name, Patterns.word(name, 'D', 7, 'R', 0), 23, 16, name.startsWith("F") ? 30 : 15);
            registers(name, Patterns.word(name, 'D', 0, 'R', 7), 16, 23, name.startsWith("F") ? 30 : 15);
        }
        registers("MULS", Patterns.word("MULS", 'D', 15, 'R', 0), 31, 16, 15);
        registers("MULS", Patterns.word("MULS", 'D', 0, 'R', 15), 16, 31, 15);
        registers("MUL", Patterns.word("MUL", 'd', 31, 'r', 2), 31, 2, 15);
        registers("MUL", Patterns.word("MUL", 'd', 2, 'r', 31), 2, 31, 15);
        // both of R0, R1 are taken before they become the product
        registers("MUL", Patterns.word("MUL", 'd', 0, 'r', 1), 0, 1, 15);
        registers("MUL", Patterns.word("MUL", 'd', 1, 'r', 0), 1, 0, 15);
        for (int d : new int[] {0, 15, 16, 31}) {
            for (int r : new int[] {0, 15, 16, 31}) {
                FlagCore core = Check.core(Patterns.word("MOV", 'd', d, 'r', r));
                core.put(d, 7);
                core.put(r, 9);
                core.step();
                Check.due("MOV " + d + ", " + r, core.data(d), 9);
            }
        }
        for (int d : new int[] {16, 31}) {
            for (int k : new int[] {0, 15, 16, 255}) {
                FlagCore core = Check.core(Patterns.word("LDI", 'D', d - 16, 'K', k));
                core.put(d, 77);
                core.step();
                Check.due("LDI " + d + ", " + k, core.data(d), k);
            }
        }
    }

    private static void registers(String name, int w, int d, int r, int product) {
        FlagCore core = Check.core(w);
        core.put(d, 3);
        core.put(r, 5);
        core.step();
        Check.due(name + " of R" + d + ", R" + r, core.data(0) + 256 * core.data(1), product);
    }

    // "0000 0001 dddd rrrr: R 2d, 2d + 1 become R 2r, 2r + 1": the first, the last, and a pair that becomes itself.
    private static void pairsMove() {
        int[][] rows = {{0, 15}, {15, 0}, {0, 0}, {15, 15}, {14, 15}};
        for (int[] row : rows) {
            FlagCore core = Check.core(Patterns.word("MOVW", 'd', row[0], 'r', row[1]));
            core.put(2 * row[0], 1);
            core.put(2 * row[0] + 1, 2);
            core.put(2 * row[1], 201);
            core.put(2 * row[1] + 1, 202);
            core.put(95, 255);
            core.step();
            String call = "MOVW " + row[0] + ", " + row[1];
            Check.due(call + ": low", core.data(2 * row[0]), 201);
            Check.due(call + ": high", core.data(2 * row[0] + 1), 202);
            Check.due(call + ": from, low", core.data(2 * row[1]), 201);
            Check.due(call + ": from, high", core.data(2 * row[1] + 1), 202);
            Check.due(call + ": R32 is none", core.data(32), 0);
            Check.due(call + ": FLAGS", core.told(2), 255);
        }
    }

    // "FLAG s becomes 1, 1sss 1000 0": the first, the last, and where it is so already.
    private static void flagsOneByOne() {
        for (int s = 0; s < 8; s++) {
            for (int ahead : new int[] {0, 255}) {
                one("FLAG " + s, Patterns.word("BSET", 's', s), ahead, 1, 2, 1, ahead | 1 << s);
                one("FLAG " + s, Patterns.word("BCLR", 's', s), ahead, 1, 2, 1, ahead & 255 - (1 << s));
            }
        }
    }

    public static void main(String[] args) {
        zIsOneForNothing();
        nIsBitSeven();
        sIsOneOfBoth();
        cOfASum();
        hOfASum();
        vOfASum();
        cOfADifference();
        hOfADifference();
        vOfADifference();
        zStaysNothing();
        othersStay();
        bitByBit();
        oneMoreAndOneLess();
        fromNothing();
        rightByOne();
        pairsMore();
        pairsLess();
        products();
        fractions();
        firstAndLastRegisters();
        pairsMove();
        flagsOneByOne();
        Check.finish("SumEdgesTest");
    }
}
