/** Promise 10, what moves bytes: memory, pointers, the stack, ports, bits; with what is BEYOND. */
public final class MemoryTest {
    private static final int X = 26, Y = 28, Z = 30, SP = 93;

    private static int w(String name, int... numbers) {
        return Patterns.word(name, numbers);
    }

    private static void done(FlagCore x, String call) {
        Check.due(call, x.step(), FlagCore.DONE);
    }

    /** A step that is BEYOND: the answer, and that nothing changes. */
    private static void beyond(FlagCore x, String call) {
        int was = x.digest();
        int calls = x.count(6);
        int sum = x.count(3);
        Check.due(call, x.step(), FlagCore.BEYOND);
        Check.due(call + ": digest()", x.digest(), was);
        Check.due(call + ": count(6)", x.count(6), calls);
        Check.due(call + ": count(3)", x.count(3), sum + 1);
        Check.due(call + ": ended()", x.ended(), FlagCore.BEYOND);
    }

    private static int told(FlagCore x, int pointer) {
        return x.data(pointer) + 256 * x.data(pointer + 1);
    }

    private static void pointersGoOn() {
        String[] letters = {"X", "Y", "Z"};
        int[] lows = {X, Y, Z};
        for (int i = 0; i < 3; i++) {
            FlagCore x = Check.core(
                w("LD " + letters[i] + "+", 'd', 5), w("ST " + letters[i] + "+", 'd', 5),
                w("LD -" + letters[i], 'd', 6), w("ST -" + letters[i], 'd', 7));
            Check.setPair(x, lows[i], 511);
            x.put(511, 99);
            x.put(7, 44);
            done(x, "LD +");
            Check.due("LD +: d", x.data(5), 99);
            Check.due("LD +: pointer", told(x, lows[i]), 512);
            done(x, "ST +");
            Check.due("ST +: byte", x.data(512), 99);
            Check.due("ST +: pointer", told(x, lows[i]), 513);
            done(x, "LD -");
            Check.due("LD -: d", x.data(6), 99);
            Check.due("LD -: pointer", told(x, lows[i]), 512);
            done(x, "ST -");
            Check.due("ST -: byte", x.data(511), 44);
            Check.due("ST -: pointer", told(x, lows[i]), 511);
            Check.due("PC", x.told(0), 4);
            Check.due("told", x.told(3 + i), 511);
        }
    }

    private static void pointersAtTheirOwnRegisters() {
        FlagCore x = Check.core(w("ST X+", 'd', 5), w("ST -X", 'd', 5), w("LD X+", 'd', 6), w("LD -X", 'd', 6));
        x.put(5, 200);
        Check.setPair(x, X, 26);
        done(x, "ST X+ at X");
        Check.due("ST X+ at X: X", x.told(3), 27);
        done(x, "ST -X at X");
        Check.due("ST -X at X: X", x.told(3), 200);
        Check.setPair(x, X, 26);
        done(x, "LD X+ at X");
        Check.due("LD X+ at X: d", x.data(6), 26);
        Check.due("LD X+ at X: X", x.told(3), 27);
        done(x, "LD -X at X");
        Check.due("LD -X at X: d", x.data(6), 26);
        Check.due("LD -X at X: X", x.told(3), 26);
    }

    private static void pointersStay() {
        FlagCore x = Check.core(
            w("LD X", 'd', 26), w("ST X", 'd', 4), w("LDD", 'd', 30, 'p', 0, 'q', 63), w("STD", 'd', 29, 'p', 1, 'q', 0),
            w("STD", 'd', 4, 'p', 1, 'q', 41), w("LDD", 'd', 8, 'p', 1, 'q', 22));
        Check.setPair(x, X, 700);
        x.put(700, 12);
        done(x, "LD X to X's own");
        Check.due("LD X: X", x.told(3), 2 * 256 + 12);
        x.put(4, 77);
        done(x, "ST X");
        Check.due("ST X: byte", x.data(524), 77);
        Check.setPair(x, Z, 300);
        x.put(363, 88);
        done(x, "LDD Z");
        Check.due("LDD Z: Z", x.told(5), 256 + 88);
        Check.setPair(x, Y, 0x300);
        done(x, "STD Y");
        Check.due("STD Y: byte", x.data(0x300), 3);
        done(x, "STD Y + 41");
        Check.due("STD Y + 41: byte", x.data(0x329), 77);
        x.put(0x316, 19);
        done(x, "LDD Y + 22");
        Check.due("LDD Y + 22: d", x.data(8), 19);
        Check.due("Y", x.told(4), 0x300);
    }

    private static void pointersAtTheEdges() {
        String[] words = {"LD X", "ST X", "LD X+", "ST X+", "LD -X", "ST -X"};
        for (String word : words) {
            int less = word.contains("-") ? 1 : 0;
            for (int place : new int[] {1024, 1025, 2000, 65534, 65535}) {
                FlagCore x = Check.core(w(word, 'd', 3));
                Check.setPair(x, X, (place + less) % 65536);
                beyond(x, word + " at " + place);
            }
            for (int place : new int[] {0, 1023}) {
                FlagCore x = Check.core(w(word, 'd', 3));
                Check.setPair(x, X, place + less);
                done(x, word + " at " + place);
                Check.due(word + " at " + place + ": X", x.told(3), place + (word.contains("+") ? 1 : 0));
            }
        }
        FlagCore x = Check.core(w("LDD", 'd', 3, 'p', 0, 'q', 1), w("LDD", 'd', 3, 'p', 1, 'q', 1));
        Check.setPair(x, Z, 1023);
        beyond(x, "LDD Z + 1 at 1023");
        Check.setPair(x, Z, 1022);
        x.put(1023, 31);
        done(x, "LDD Z + 1 at 1022");
        Check.due("LDD: d", x.data(3), 31);
        Check.setPair(x, Y, 65535);
        x.put(0, 66);
        done(x, "LDD Y + 1 at 65535 goes round");
        Check.due("LDD goes round: d", x.data(3), 66);
    }

    private static void atTheNextWord() {
        FlagCore x = Check.core(w("STS", 'd', 17), 1023, w("LDS", 'd', 2), 95, w("LDS", 'd', 2), 1024, w("STS", 'd', 2));
        x.put(17, 5);
        x.put(95, 0x7F);
        done(x, "STS");
        Check.due("STS: byte", x.data(1023), 5);
        Check.due("STS: PC", x.told(0), 2);
        done(x, "LDS");
        Check.due("LDS: d", x.data(2), 0x7F);
        Check.due("LDS: PC", x.told(0), 4);
        beyond(x, "LDS at 1024");
        x.go(6);
        x.code(7, 65535);
        beyond(x, "STS at 65535");
        x.go(1023);
        x.code(1023, w("STS", 'd', 17));
        x.code(0, 600);
        done(x, "STS over the end of CODE");
        Check.due("STS over the end: byte", x.data(600), 5);
        Check.due("STS over the end: PC", x.told(0), 1);
    }

    private static void theStackOfBytes() {
        FlagCore x = Check.core(w("PUSH", 'd', 20), w("POP", 'd', 30), w("PUSH", 'd', 20), w("POP", 'd', 1));
        x.put(20, 111);
        Check.setPair(x, SP, 1023);
        done(x, "PUSH");
        Check.due("PUSH: byte", x.data(1023), 111);
        Check.due("PUSH: SP", x.told(1), 1022);
        done(x, "POP");
        Check.due("POP: d", x.data(30), 111);
        Check.due("POP: SP", x.told(1), 1023);
        Check.setPair(x, SP, 0);
        done(x, "PUSH at 0");
        Check.due("PUSH at 0: byte", x.data(0), 111);
        Check.due("PUSH at 0: SP", x.told(1), 65535);
        done(x, "POP at 65535");
        Check.due("POP at 65535: d", x.data(1), 111);
        Check.due("POP at 65535: SP", x.told(1), 0);
        x.go(0);
        Check.setPair(x, SP, 1024);
        beyond(x, "PUSH at 1024");
        x.go(1);
        Check.setPair(x, SP, 1023);
        beyond(x, "POP at 1023");
        Check.setPair(x, SP, 65534);
        beyond(x, "POP at 65534");
    }

    private static void theStackAtItsOwnPlace() {
        FlagCore x = Check.core(w("PUSH", 'd', 20), w("POP", 'd', 1));
        x.put(20, 111);
        Check.setPair(x, SP, 93);
        done(x, "PUSH at SP");
        Check.due("PUSH at SP: SP", x.told(1), 92);
        done(x, "POP at SP");
        Check.due("POP at SP: d", x.data(1), 93);
        Check.due("POP at SP: SP", x.told(1), 93);
        x.go(0);
        Check.setPair(x, SP, 95);
        done(x, "PUSH at FLAGS");
        Check.due("PUSH at FLAGS: FLAGS", x.told(2), 111);
    }

    private static void bytesOfCode() {
        FlagCore x = Check.core(w("LPM R0"), w("LPM", 'd', 31), w("LPM Z+", 'd', 7), w("LPM Z+", 'd', 8), 0xABCD, 0x1234);
        Check.setPair(x, Z, 9);
        done(x, "LPM R0");
        Check.due("LPM R0: d", x.data(0), 0xAB);
        Check.due("LPM R0: Z", x.told(5), 9);
        x.code(1, w("LPM", 'd', 30));
        done(x, "LPM to Z");
        Check.due("LPM to Z: Z", x.told(5), 0xAB);
        Check.setPair(x, Z, 8 + 2 * 1024 * 31);
        done(x, "LPM Z+");
        Check.due("LPM Z+: d", x.data(7), 0xCD);
        Check.due("LPM Z+: Z", x.told(5), 9 + 2 * 1024 * 31);
        Check.setPair(x, Z, 65535);
        x.code(1023, 0x5678);
        done(x, "LPM Z+ at the end");
        Check.due("LPM Z+ at the end: d", x.data(8), 0x56);
        Check.due("LPM Z+ at the end: Z", x.told(5), 0);
        Check.due("PC", x.told(0), 4);
    }

    private static void portsAndBits() {
        FlagCore x = Check.core(
            w("OUT", 'd', 3, 'A', 63), w("IN", 'd', 4, 'A', 63), w("OUT", 'd', 3, 'A', 0), w("SBI", 'A', 31, 'b', 7),
            w("CBI", 'A', 0, 'b', 1), w("BST", 'd', 3, 'b', 1), w("BLD", 'd', 9, 'b', 6), w("BST", 'd', 3, 'b', 0),
            w("BLD", 'd', 3, 'b', 7), w("BCLR", 's', 1), w("BSET", 's', 0), w("MOVW", 'd', 14, 'r', 1));
        x.put(3, 0x82);
        done(x, "OUT to FLAGS");
        Check.due("OUT to FLAGS", x.told(2), 0x82);
        Check.due("OUT is not WAITED for", x.told(6), 0);
        done(x, "IN");
        Check.due("IN: d", x.data(4), 0x82);
        done(x, "OUT to port 0");
        Check.due("OUT to port 0", x.data(32), 0x82);
        done(x, "SBI");
        Check.due("SBI", x.data(63), 0x80);
        done(x, "CBI");
        Check.due("CBI", x.data(32), 0x80);
        done(x, "BST 1");
        Check.due("BST 1: FLAGS", x.told(2), 0xC2);
        done(x, "BLD 1");
        Check.due("BLD 1: d", x.data(9), 0x40);
        done(x, "BST 0");
        Check.due("BST 0: FLAGS", x.told(2), 0x82);
        done(x, "BLD 0");
        Check.due("BLD 0: d", x.data(3), 2);
        done(x, "BCLR");
        Check.due("BCLR: FLAGS", x.told(2), 0x80);
        done(x, "BSET");
        Check.due("BSET: FLAGS", x.told(2), 0x81);
        x.put(2, 7);
        done(x, "MOVW");
        Check.due("MOVW: R28", x.data(28), 7);
        Check.due("MOVW: R29", x.data(29), 2);
        Check.due("MOVW: FLAGS", x.told(2), 0x81);
        Check.due("MOVW: PC", x.told(0), 12);
    }

    private static void products() {
        FlagCore x = Check.core(w("MUL", 'd', 16, 'r', 0), w("MULS", 'D', 0, 'R', 1), w("MULSU", 'D', 0, 'R', 1),
            w("FMUL", 'D', 0, 'R', 1), w("FMULS", 'D', 0, 'R', 1), w("FMULSU", 'D', 0, 'R', 1));
        x.put(16, 200);
        x.put(17, 255);
        x.put(0, 250);
        x.put(95, 0xFC);
        int[] results = {50000, 56, 0x10000 - 56 * 255, 200 * 255 * 2 & 65535, 112, 0x20000 - 56 * 255 * 2 & 65535};
        int[] flags = {0xFD, 0xFC, 0xFD, 0xFD, 0xFC, 0xFD};
        for (int i = 0; i < 6; i++) {
            done(x, "product " + i);
            Check.due("product " + i, told(x, 0), results[i]);
            Check.due("product " + i + ": FLAGS", x.told(2), flags[i]);
        }
        x.put(17, 0);
        for (int i = 1; i < 6; i++) {
            x.go(i);
            done(x, "product of 0");
            Check.due("product of 0", told(x, 0), 0);
            Check.due("product of 0: FLAGS", x.told(2), 0xFE);
        }
    }

    public static void main(String[] args) {
        pointersGoOn();
        pointersAtTheirOwnRegisters();
        pointersStay();
        pointersAtTheEdges();
        atTheNextWord();
        theStackOfBytes();
        theStackAtItsOwnPlace();
        bytesOfCode();
        portsAndBits();
        products();
        Check.finish("MemoryTest");
    }
}
