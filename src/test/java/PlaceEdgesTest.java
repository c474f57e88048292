/** The document's boundary cases of places: bytes of DATA and CODE, pointers, the STACK, ports and bits, by sentence. */
public final class PlaceEdgesTest {
    private static final int X = 26, Y = 28, Z = 30, SP = 93, FLAGS = 95;
    private static final int[] POINTERS = {X, Y, Z};
    private static final String[] NAMES = {"X", "Y", "Z"};
    private static final int[] BEYOND_ALL = {1024, 1025, 2047, 32768, 65534, 65535};

    private static int w(String name, int... numbers) {
        return Patterns.word(name, numbers);
    }

    private static void done(String call, FlagCore x, int pc) {
        Check.due(call, x.step(), FlagCore.DONE);
        Check.due(call + ": PC", x.told(0), pc);
    }

    private static int pair(FlagCore x, int low) {
        return x.data(low) + 256 * x.data(low + 1);
    }

    /** An object whose word at 7 is w, with what no BEYOND step may change. */
    private static FlagCore beyondAt(int... words) {
        FlagCore x = Check.at(7, words);
        x.put(3, 77);
        x.put(FLAGS, 0x55);
        x.ask(9);
        return x;
    }

    // "A step that would ask for a byte beyond 1023 is BEYOND: .. nothing changes then." At the next word.
    private static void beyondAtTheNextWord() {
        for (String name : new String[] {"LDS", "STS"}) {
            for (int place : BEYOND_ALL) {
                Check.nothingBut(name + " at " + place, beyondAt(w(name, 'd', 3), place), FlagCore.BEYOND);
            }
            for (int place : new int[] {0, 1, 1022, 1023}) {
                FlagCore x = beyondAt(w(name, 'd', 3), place);
                x.put(place, 66);
                done(name + " at " + place, x, 9);
                Check.due(name + " at " + place + ": d", x.data(3), name.equals("LDS") ? 66 : 77);
                Check.due(name + " at " + place + ": byte", x.data(place), name.equals("LDS") ? 66 : 77);
            }
        }
    }

    // "0000 at the next word (PC behind it)", PC is modulo 1024.
    private static void theNextWordGoesRound() {
        for (String name : new String[] {"LDS", "STS"}) {
            FlagCore x = Check.at(1023, w(name, 'd', 3), 500);
            x.put(3, 77);
            x.put(500, name.equals("LDS") ? 66 : 0);
            done(name + " over the end", x, 1);
            Check.due(name + " over the end: d", x.data(3), name.equals("LDS") ? 66 : 77);
            Check.due(name + " over the end: byte", x.data(500), name.equals("LDS") ? 66 : 77);
            done(name + " up to the end", upToTheEnd(w(name, 'd', 3)), 0);
            Check.nothingBut(name + " over the end at 1024", Check.at(1023, w(name, 'd', 3), 1024), FlagCore.BEYOND);
        }
    }

    private static FlagCore upToTheEnd(int word) {
        return Check.at(1022, word, 500);
    }

    // The same of each pointer as it is, with one more behind, with one less first.
    private static void beyondAtPointers() {
        for (int i = 0; i < 3; i++) {
            for (String word : new String[] {"LD #", "ST #", "LD #+", "ST #+", "LD -#", "ST -#"}) {
                if (word.endsWith(" #") && i > 0) {
                    continue;
                }
                String name = word.replace("#", NAMES[i]);
                int less = word.contains("-") ? 1 : 0;
                for (int place : BEYOND_ALL) {
                    FlagCore x = beyondAt(w(name, 'd', 3));
                    Check.setPair(x, POINTERS[i], (place + less) % 65536);
                    Check.nothingBut(name + " at " + place, x, FlagCore.BEYOND);
                }
                for (int place : new int[] {0, 1, 1022, 1023}) {
                    takenAt(name, POINTERS[i], place, less, word.contains("+") ? 1 : 0);
                }
            }
        }
    }

    private static void takenAt(String name, int pointer, int place, int less, int more) {
        FlagCore x = beyondAt(w(name, 'd', 3));
        Check.setPair(x, pointer, place + less);
        x.put(place, 66);
        String call = name + " at " + place;
        boolean comes = name.startsWith("LD");
        done(call, x, 8);
        Check.due(call + ": d", x.data(3), comes ? 66 : 77);
        Check.due(call + ": byte", x.data(place), comes ? 66 : 77);
        Check.due(call + ": the pointer", pair(x, pointer), place + more);
        Check.due(call + ": FLAGS", x.told(2), 0x55);
    }

    // "10q0 qq0d dddd pqqq to d from Z (p 0), Y (1) and q; 10q0 qq1d dddd pqqq from d": q is 0 .. 63
    private static void besidePointers() {
        for (int p = 0; p < 2; p++) {
            int pointer = p == 0 ? Z : Y;
            for (int q : new int[] {0, 1, 7, 8, 16, 31, 32, 62, 63}) {
                for (int place : new int[] {q, 500, 1022, 1023}) {
                    beside("LDD", p, pointer, q, place);
                    beside("STD", p, pointer, q, place);
                }
                for (int place : new int[] {1024, 1024 + q, 32768, 65535}) {
                    FlagCore x = beyondAt(w("LDD", 'd', 3, 'p', p, 'q', q));
                    Check.setPair(x, pointer, place - q);
                    Check.nothingBut("LDD at " + (place - q) + " and " + q, x, FlagCore.BEYOND);
                    x.code(7, w("STD", 'd', 3, 'p', p, 'q', q));
                    Check.nothingBut("STD at " + (place - q) + " and " + q, x, FlagCore.BEYOND);
                }
            }
        }
    }

    private static void beside(String name, int p, int pointer, int q, int place) {
        FlagCore x = beyondAt(w(name, 'd', 3, 'p', p, 'q', q));
        Check.setPair(x, pointer, place - q);
        boolean apart = place != 3 && place != pointer && place != pointer + 1;
        x.put(place, apart ? 66 : x.data(place));
        int was = x.data(place);
        String call = name + " at " + (place - q) + " and " + q;
        done(call, x, 8);
        if (apart) {
            Check.due(call + ": d", x.data(3), name.equals("LDD") ? was : 77);
            Check.due(call + ": byte", x.data(place), name.equals("LDD") ? was : 77);
            Check.due(call + ": the pointer stays", pair(x, pointer), place - q);
        }
    }

    // "MEMORY to d (1001 000d dddd ..), from d (1001 001d dddd ..)": each register that is no pointer's
    private static void eachRegister() {
        String[] to = {"LDS", "LD X", "LD Z+", "LD -Y", "POP"};
        int[] toPlaces = {400, 400, 400, 399, 401};
        String[] from = {"STS", "ST X", "ST Z+", "ST -Y", "PUSH"};
        int[] fromPlaces = {400, 400, 400, 399, 400};
        for (int d = 0; d < 26; d++) {
            for (int i = 0; i < to.length; i++) {
                moved(to[i], w(to[i], 'd', d), d, toPlaces[i], true);
                moved(from[i], w(from[i], 'd', d), d, fromPlaces[i], false);
            }
            for (int q : new int[] {0, 7, 8, 16, 32, 63}) {
                for (int p = 0; p < 2; p++) {
                    moved("LDD", w("LDD", 'd', d, 'p', p, 'q', q), d, 400 + q, true);
                    moved("STD", w("STD", 'd', d, 'p', p, 'q', q), d, 400 + q, false);
                }
            }
        }
    }

    /** All places are told as 400, and each byte there is unlike those around it. */
    private static void moved(String name, int word, int d, int place, boolean comes) {
        FlagCore x = Check.at(7, word, 400);
        for (int low : new int[] {X, Y, Z, SP}) {
            Check.setPair(x, low, 400);
        }
        for (int around = 395; around < 470; around++) {
            x.put(around, around & 127);
        }
        x.put(d, 200);
        done(name + " of R" + d, x, Patterns.hasNext(word) ? 9 : 8);
        Check.due(name + " of R" + d + ": d", x.data(d), comes ? place & 127 : 200);
        Check.due(name + " of R" + d + ": byte " + place, x.data(place), comes ? place & 127 : 200);
    }

    // "X, Y, Z are R26, R28, R30 (low bytes) with those behind (high): 16 bits, going round."
    private static void pointersGoRound() {
        FlagCore x = Check.at(7, w("LPM Z+", 'd', 3));
        Check.setPair(x, Z, 65535);
        done("LPM Z+ at 65535", x, 8);
        Check.due("LPM Z+ at 65535: Z", x.told(5), 0);
        Check.due("LPM Z+ at 65535: behind Z", x.data(32), 0);
        x = Check.at(7, w("LPM Z+", 'd', 3));
        Check.setPair(x, Z, 511);
        done("LPM Z+ at 511", x, 8);
        Check.due("LPM Z+ at 511: Z", x.told(5), 512);
        for (int i = 0; i < 3; i++) {
            for (String word : new String[] {"LD -", "ST -"}) {
                x = beyondAt(w(word + NAMES[i], 'd', 3));
                Check.nothingBut(word + NAMES[i] + " at 0 is 65535", x, FlagCore.BEYOND);
            }
            for (String word : new String[] {"LD ", "ST "}) {
                x = Check.at(7, w(word + NAMES[i] + "+", 'd', 3));
                Check.setPair(x, POINTERS[i], 255);
                done(word + NAMES[i] + "+ at 255", x, 8);
                Check.due(word + NAMES[i] + "+ at 255", pair(x, POINTERS[i]), 256);
                x = Check.at(7, w(word + "-" + NAMES[i], 'd', 3));
                Check.setPair(x, POINTERS[i], 256);
                done(word + "-" + NAMES[i] + " at 256", x, 8);
                Check.due(word + "-" + NAMES[i] + " at 256", pair(x, POINTERS[i]), 255);
            }
        }
        for (int p = 0; p < 2; p++) {
            // the sum of a pointer and q goes round as the pointer does: NOTES.md
            x = Check.at(7, w("LDD", 'd', 3, 'p', p, 'q', 1));
            Check.setPair(x, p == 0 ? Z : Y, 65535);
            x.put(0, 66);
            done("LDD at 65535 and 1", x, 8);
            Check.due("LDD at 65535 and 1", x.data(3), 66);
        }
    }

    // "ILLEGAL: where a pointer changes, and d is one of both its registers."
    private static void pointersThatAreTheRegister() {
        for (int i = 0; i < 3; i++) {
            for (String word : new String[] {"LD #+", "LD -#", "ST #+", "ST -#"}) {
                String name = word.replace("#", NAMES[i]);
                registersOf(name, w(name, 'd', 0), POINTERS[i]);
            }
        }
        registersOf("LPM Z+", w("LPM Z+", 'd', 0), Z);
        int[] stay = {w("LD X", 'd', 26), w("LD X", 'd', 27), w("ST X", 'd', 26), w("ST X", 'd', 27),
            w("LPM", 'd', 30), w("LPM", 'd', 31), w("LDD", 'd', 30, 'p', 0, 'q', 0), w("LDD", 'd', 31, 'p', 0, 'q', 0),
            w("STD", 'd', 28, 'p', 1, 'q', 0), w("STD", 'd', 29, 'p', 1, 'q', 0), w("POP", 'd', 30), w("PUSH", 'd', 31)};
        for (int word : stay) {
            FlagCore x = Check.at(7, word);
            Check.due("a pointer stays: reads(" + word + ", 0)", x.reads(word, 0), 0);
            done("a pointer stays: " + word, x, 8);
        }
    }

    private static void registersOf(String name, int word, int pointer) {
        for (int d = 0; d < 32; d++) {
            int one = word | d << 4;
            boolean illegal = d == pointer || d == pointer + 1;
            FlagCore x = beyondAt(one);
            Check.setPair(x, pointer, 600);
            Check.due("reads(" + name + " and R" + d + ", 0)", x.reads(one, 0), illegal ? 1 : 0);
            if (illegal) {
                Check.nothingBut(name + " and R" + d, x, FlagCore.ILLEGAL);
                Check.setPair(x, pointer, 2000);
                Check.nothingBut(name + " and R" + d + " beyond", x, FlagCore.ILLEGAL);
            } else {
                done(name + " and R" + d, x, 8);
            }
        }
    }

    // "Places are told by the pointer .. as it was ahead; it becomes that and 1 .. behind what is done there"
    private static void oneMoreBehindAtItsOwnPlace() {
        for (int i = 0; i < 3; i++) {
            int low = POINTERS[i];
            for (int place : new int[] {low, low + 1}) {
                FlagCore x = Check.at(7, w("ST " + NAMES[i] + "+", 'd', 3));
                x.put(3, 200);
                Check.setPair(x, low, place);
                done("ST + at its own place", x, 8);
                Check.due("ST " + NAMES[i] + "+ at " + place, pair(x, low), place + 1);
                x = Check.at(7, w("LD " + NAMES[i] + "+", 'd', 3));
                Check.setPair(x, low, place);
                done("LD + at its own place", x, 8);
                Check.due("LD " + NAMES[i] + "+ at " + place + ": d", x.data(3), place == low ? place : 0);
                Check.due("LD " + NAMES[i] + "+ at " + place, pair(x, low), place + 1);
            }
        }
    }

    // ".. less 1 .. but first where that is said"
    private static void oneLessFirstAtItsOwnPlace() {
        for (int i = 0; i < 3; i++) {
            int low = POINTERS[i];
            FlagCore x = Check.at(7, w("ST -" + NAMES[i], 'd', 3));
            x.put(3, 200);
            Check.setPair(x, low, low + 1);
            done("ST - at its own low place", x, 8);
            Check.due("ST -" + NAMES[i] + " at its low place", pair(x, low), 200);
            x = Check.at(7, w("ST -" + NAMES[i], 'd', 3));
            x.put(3, 2);
            Check.setPair(x, low, low + 2);
            done("ST - at its own high place", x, 8);
            Check.due("ST -" + NAMES[i] + " at its high place", pair(x, low), 512 + low + 1);
            x = Check.at(7, w("LD -" + NAMES[i], 'd', 3));
            Check.setPair(x, low, low + 1);
            done("LD - at its own low place", x, 8);
            Check.due("LD -" + NAMES[i] + " at its low place: d", x.data(3), low);
            Check.due("LD -" + NAMES[i] + " at its low place", pair(x, low), low);
        }
    }

    // "the STACK (to d: SP one more, then there; from d: there, then SP one less)", at both ends of DATA
    private static void theStackAtItsEnds() {
        for (int sp : new int[] {0, 1, 255, 256, 1022, 1023}) {
            FlagCore x = beyondAt(w("PUSH", 'd', 3));
            Check.setPair(x, SP, sp);
            done("PUSH with SP " + sp, x, 8);
            Check.due("PUSH with SP " + sp + ": byte", x.data(sp), 77);
            Check.due("PUSH with SP " + sp + ": SP", x.told(1), (sp + 65535) % 65536);
            Check.due("PUSH with SP " + sp + ": FLAGS", x.told(2), 0x55);
        }
        for (int sp : BEYOND_ALL) {
            FlagCore x = beyondAt(w("PUSH", 'd', 3));
            Check.setPair(x, SP, sp);
            Check.nothingBut("PUSH with SP " + sp, x, FlagCore.BEYOND);
        }
        for (int sp : new int[] {65535, 0, 255, 1021, 1022}) {
            FlagCore x = beyondAt(w("POP", 'd', 3));
            Check.setPair(x, SP, sp);
            x.put((sp + 1) % 65536, 66);
            done("POP with SP " + sp, x, 8);
            Check.due("POP with SP " + sp + ": d", x.data(3), 66);
            Check.due("POP with SP " + sp + ": SP", x.told(1), (sp + 1) % 65536);
            Check.due("POP with SP " + sp + ": FLAGS", x.told(2), 0x55);
        }
        for (int sp : new int[] {1023, 1024, 2047, 32767, 65533, 65534}) {
            FlagCore x = beyondAt(w("POP", 'd', 3));
            Check.setPair(x, SP, sp);
            Check.nothingBut("POP with SP " + sp, x, FlagCore.BEYOND);
        }
    }

    // "Places are told .. by SP, as it was ahead; it becomes .. less 1, behind what is done there, but first where that is said"
    private static void theStackAtItsOwnPlace() {
        for (int sp : new int[] {93, 94}) {
            FlagCore x = Check.at(7, w("PUSH", 'd', 3));
            x.put(3, 200);
            Check.setPair(x, SP, sp);
            done("PUSH at SP's own place", x, 8);
            Check.due("PUSH at " + sp + ": SP", x.told(1), sp - 1);
        }
        for (int sp : new int[] {92, 93}) {
            FlagCore x = Check.at(7, w("POP", 'd', 3));
            Check.setPair(x, SP, sp);
            done("POP at SP's own place", x, 8);
            Check.due("POP at " + (sp + 1) + ": d", x.data(3), sp == 92 ? 93 : 0);
            Check.due("POP at " + (sp + 1) + ": SP", x.told(1), sp + 1);
        }
        FlagCore x = Check.at(7, w("PUSH", 'd', 3));
        x.put(3, 200);
        Check.setPair(x, SP, FLAGS);
        done("PUSH at FLAGS", x, 8);
        Check.due("PUSH at FLAGS", x.told(2), 200);
    }

    // "CODE's byte at Z (the word Z / 2 modulo 1024; its low byte, if Z is even) to d"
    private static void bytesOfCode() {
        int[][] rows = {{0, 0x34}, {1, 0x12}, {2046, 0x78}, {2047, 0x56}, {2048, 0x34}, {2049, 0x12}, {65534, 0x78},
            {65535, 0x56}, {32768, 0x34}, {4095, 0x56}};
        String[] names = {"LPM", "LPM Z+", "LPM R0"};
        for (String name : names) {
            for (int[] row : rows) {
                FlagCore x = Check.at(7, name.equals("LPM R0") ? w(name) : w(name, 'd', 3));
                x.code(0, 0x1234);
                x.code(1023, 0x5678);
                Check.setPair(x, Z, row[0]);
                x.put(FLAGS, 0x55);
                String call = name + " at " + row[0];
                done(call, x, 8);
                Check.due(call + ": d", x.data(name.equals("LPM R0") ? 0 : 3), row[1]);
                Check.due(call + ": Z", x.told(5), (row[0] + (name.equals("LPM Z+") ? 1 : 0)) % 65536);
                Check.due(call + ": FLAGS", x.told(2), 0x55);
            }
        }
        for (int d : new int[] {30, 31}) {
            FlagCore x = Check.at(7, w("LPM", 'd', d));
            x.code(128, 0xABCD);
            Check.setPair(x, Z, 257);
            done("LPM to Z's own register", x, 8);
            Check.due("LPM to R" + d, x.told(5), d == 30 ? 256 + 0xAB : 0xAB00 + 1);
        }
    }

    // "32 .. 95 are PORTS 0 .. 63"; "1011 0AAd dddd AAAA d becomes port A; 1011 1AAd dddd AAAA port A becomes d"
    private static void theFirstAndTheLastPort() {
        for (int a : new int[] {0, 15, 16, 31, 32, 47, 48, 60, 61, 62, 63}) {
            for (int d : new int[] {0, 31}) {
                FlagCore x = Check.at(7, w("IN", 'd', d, 'A', a));
                x.put(32 + a, 66);
                x.put(d, 77);
                done("IN", x, 8);
                Check.due("IN " + d + ", " + a + ": d", x.data(d), 66);
                Check.due("IN " + d + ", " + a + ": port", x.data(32 + a), 66);
                x = Check.at(7, w("OUT", 'd', d, 'A', a));
                x.put(32 + a, 66);
                x.put(d, 77);
                done("OUT", x, 8);
                Check.due("OUT " + d + ", " + a + ": d", x.data(d), 77);
                Check.due("OUT " + d + ", " + a + ": port", x.data(32 + a), 77);
            }
        }
    }

    // "bit b of port A (0 .. 31) becomes 0, 1001 1010 1"
    private static void theFirstAndTheLastBitOfPorts() {
        for (int a : new int[] {0, 15, 16, 31}) {
            for (int b = 0; b < 8; b++) {
                for (int v : new int[] {0, 255, 0xA5}) {
                    bitOfPort("CBI", a, b, v, v & 255 - (1 << b));
                    bitOfPort("SBI", a, b, v, v | 1 << b);
                }
            }
        }
    }

    private static void bitOfPort(String name, int a, int b, int v, int due) {
        FlagCore x = Check.at(7, w(name, 'A', a, 'b', b));
        x.put(32 + a, v);
        x.put(31, 99);
        x.put(64, 98);
        x.put(FLAGS, 0x55);
        String call = name + " of port " + a + ", bit " + b + " of " + v;
        done(call, x, 8);
        Check.due(call, x.data(32 + a), due);
        Check.due(call + ": the last register", x.data(31), 99);
        Check.due(call + ": port 32", x.data(64), 98);
        Check.due(call + ": FLAGS", x.told(2), 0x55);
    }

    // "1111 101d dddd 0bbb T becomes it; 1111 100d dddd 0bbb it becomes T"
    private static void theFirstAndTheLastBitOfRegisters() {
        for (int d : new int[] {0, 15, 16, 31}) {
            for (int b = 0; b < 8; b++) {
                for (int v : new int[] {0, 255, 1 << b, 255 - (1 << b)}) {
                    for (int flags : new int[] {0, 255, 64, 191}) {
                        bitOfRegister(d, b, v, flags);
                    }
                }
            }
        }
    }

    private static void bitOfRegister(int d, int b, int v, int flags) {
        FlagCore x = Check.at(7, w("BST", 'd', d, 'b', b), w("BLD", 'd', d, 'b', b));
        x.put(d, v);
        x.put(FLAGS, flags);
        String call = "bit " + b + " of R" + d + ", " + v + ", FLAGS " + flags;
        done("T becomes " + call, x, 8);
        Check.due("T becomes " + call, x.told(2), flags & 191 | (v >> b & 1) << 6);
        Check.due("T becomes " + call + ": d", x.data(d), v);
        x.put(FLAGS, flags);
        done("it becomes T: " + call, x, 9);
        Check.due("it becomes T: " + call, x.data(d), v & 255 - (1 << b) | (flags >> 6 & 1) << b);
        Check.due("it becomes T: " + call + ": FLAGS", x.told(2), flags);
    }

    public static void main(String[] args) {
        beyondAtTheNextWord();
        theNextWordGoesRound();
        beyondAtPointers();
        besidePointers();
        eachRegister();
        pointersGoRound();
        pointersThatAreTheRegister();
        oneMoreBehindAtItsOwnPlace();
        oneLessFirstAtItsOwnPlace();
        theStackAtItsEnds();
        theStackAtItsOwnPlace();
        bytesOfCode();
        theFirstAndTheLastPort();
        theFirstAndTheLastBitOfPorts();
        theFirstAndTheLastBitOfRegisters();
        Check.finish("PlaceEdgesTest");
    }
}
