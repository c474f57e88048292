import java.util.List;
import java.util.Set;

/** The document's boundary cases of PC, SKIP, CALL and VECTORS, and of steps that change nothing, by sentence. */
public final class FlowEdgesTest {
    private static final int X = 26, Y = 28, Z = 30, SP = 93, FLAGS = 95;
    private static final int NOP = 0, ILLEGAL_WORD = 1, SEI = 0x9478, RET = 0x9508, RETI = 0x9518;
    private static final int[] SKIP_IF_ALIKE = {0x1001, 0x9903, 0xFC03};
    private static final int[] NO_PLACE_FOR_A_CALL = {0, 1024, 1025, 2047, 32768, 65535};
    private static final Set<String> ELSEWHERE = Set.of("RJMP", "RCALL", "IJMP", "ICALL", "JMP", "CALL", "BRBS", "BRBC",
        "RET", "RETI", "CPSE", "SBIC", "SBIS", "SBRC", "SBRS");

    private static int w(String name, int... numbers) {
        return Patterns.word(name, numbers);
    }

    private static void step(String call, FlagCore x, int how, int pc) {
        Check.due(call, x.step(), how);
        Check.due(call + ": ended()", x.ended(), how);
        Check.due(call + ": PC", x.told(0), pc);
    }

    // "PC is modulo 1024": each word that does not send PC elsewhere, at the last place of CODE
    private static void pcGoesRoundBehindEachWord() {
        for (int kind = 0; kind < Patterns.kinds(); kind++) {
            List<Integer> words = Patterns.wordsOf(kind);
            for (int i = 0; i < words.size(); i += 1 + words.size() / 50) {
                int word = words.get(i);
                if (!ELSEWHERE.contains(Patterns.name(word))) {
                    int size = Patterns.hasNext(word) ? 2 : 1;
                    for (int pc : new int[] {0, 1021, 1022, 1023}) {
                        step(Patterns.name(word) + " at " + pc, ready(pc, word), FlagCore.DONE, (pc + size) % 1024);
                    }
                }
            }
        }
    }

    // "0000 0000 0000 0000 nothing": PC alone goes on, and the step is counted
    private static void nothingChangesPcAlone() {
        for (int pc : new int[] {0, 1022, 1023}) {
            FlagCore x = ready(pc, NOP);
            x.put(FLAGS, 0x7F);
            x.ask(25);
            long[] was = Check.state(x);
            step("nothing at " + pc, x, FlagCore.DONE, (pc + 1) % 1024);
            Check.due("nothing: count(0)", x.count(0), 1);
            x.go(pc);
            was[Check.COUNTS]++;
            Check.unchanged("nothing, and PC back", x, was);
        }
    }

    /** An object with pointers far from the ends of DATA, and a next word that is a place. */
    private static FlagCore ready(int pc, int word) {
        FlagCore x = Check.at(pc, word, 500);
        for (int low : new int[] {X, Y, Z}) {
            Check.setPair(x, low, 300);
        }
        return x;
    }

    // "one whose word is none of these ILLEGAL: nothing changes then": every such word, where nothing is 0
    private static void illegalChangesNothing() {
        for (int word = 0; word < 65536; word++) {
            if (Patterns.name(word) == null) {
                FlagCore x = ready(1023, word);
                x.put(FLAGS, 0x7F);
                x.ask(25);
                Check.nothingBut("ILLEGAL " + word, x, FlagCore.ILLEGAL);
                Check.due("reads(" + word + ", 0)", x.reads(word, 0), 1);
                Check.due("reads(" + word + ", 1)", x.reads(word, 1), 0);
            }
        }
    }

    // "1100 kkkk kkkk kkkk PC (behind the word) and k (with sign, 12 bits); 1101 the same as a CALL"
    private static void nearJumpsAtTheirEdges() {
        int[][] rows = {{0, 0}, {1, 1}, {1023, 1023}, {1024, 0}, {2047, 1023}, {2048, 0}, {2049, 1}, {3072, 0}, {4095, 1023}};
        for (int[] row : rows) {
            for (int pc : new int[] {0, 500, 1022, 1023}) {
                int due = (pc + 1 + row[1]) % 1024;
                jump("RJMP " + row[0] + " at " + pc, Check.at(pc, w("RJMP", 'k', row[0])), due);
                FlagCore x = Check.at(pc, w("RCALL", 'k', row[0]));
                step("RCALL " + row[0] + " at " + pc, x, FlagCore.DONE, due);
                taken("RCALL " + row[0] + " at " + pc, x, 1000, (pc + 1) % 1024);
            }
        }
    }

    /** A step that sends PC elsewhere and is no CALL. */
    private static void jump(String call, FlagCore x, int pc) {
        step(call, x, FlagCore.DONE, pc);
        Check.due(call + ": SP", x.told(1), 1000);
        Check.due(call + ": the STACK", x.data(1000) + x.data(999), 0);
        Check.due(call + ": count(6)", x.count(6), 0);
    }

    // "1111 00kk kkkk ksss: if FLAG s is 1, PC (behind the word) and k (with sign); 1111 01, if 0": 7 bits
    private static void branchesAtTheirEdges() {
        int[][] rows = {{0, 0}, {1, 1}, {63, 63}, {64, -64}, {65, -63}, {127, -1}};
        for (int[] row : rows) {
            for (int s = 0; s < 8; s++) {
                for (int pc : new int[] {0, 62, 63, 64, 500, 960, 1022, 1023}) {
                    int there = Math.floorMod(pc + 1 + row[1], 1024);
                    int behind = (pc + 1) % 1024;
                    branch("BRBS", row[0], s, pc, 1 << s, there);
                    branch("BRBS", row[0], s, pc, 255 - (1 << s), behind);
                    branch("BRBC", row[0], s, pc, 1 << s, behind);
                    branch("BRBC", row[0], s, pc, 255 - (1 << s), there);
                }
            }
        }
    }

    private static void branch(String name, int k, int s, int pc, int flags, int due) {
        FlagCore x = Check.at(pc, w(name, 'k', k, 's', s));
        x.put(FLAGS, flags);
        String call = name + " " + k + ", FLAG " + s + " of " + flags + " at " + pc;
        step(call, x, FlagCore.DONE, due);
        Check.due(call + ": FLAGS", x.told(2), flags);
    }

    // "1001 0100 0000 1001 PC becomes Z, 1001 0101 0000 1001 as a CALL": PC is modulo 1024
    private static void jumpsToZ() {
        int[][] rows = {{0, 0}, {1023, 1023}, {1024, 0}, {1025, 1}, {32768, 0}, {65534, 1022}, {65535, 1023}};
        for (int[] row : rows) {
            for (int pc : new int[] {7, 1023}) {
                FlagCore x = Check.at(pc, w("IJMP"));
                Check.setPair(x, Z, row[0]);
                jump("IJMP to " + row[0], x, row[1]);
                Check.due("IJMP to " + row[0] + ": Z", x.told(5), row[0]);
                x = Check.at(pc, w("ICALL"));
                Check.setPair(x, Z, row[0]);
                step("ICALL to " + row[0], x, FlagCore.DONE, row[1]);
                taken("ICALL to " + row[0], x, 1000, (pc + 1) % 1024);
            }
        }
    }

    // "1001 010k kkkk 110k, and the next word: PC becomes that (k is not looked at), 111k as a CALL"
    private static void farJumps() {
        for (int target : new int[] {0, 1, 1023, 1024, 1025, 32768, 65535}) {
            for (int pc : new int[] {7, 1021, 1022, 1023}) {
                for (int k : new int[] {0, 1, 2, 32, 62, 63}) {
                    jump("JMP " + k + " to " + target, Check.at(pc, w("JMP", 'k', k), target), target % 1024);
                    FlagCore x = Check.at(pc, w("CALL", 'k', k), target);
                    step("CALL " + k + " to " + target, x, FlagCore.DONE, target % 1024);
                    taken("CALL " + k + " at " + pc, x, 1000, (pc + 2) % 1024);
                }
            }
        }
    }

    // "CALL: PC behind all goes to the STACK, its low byte, then its high one."
    private static void taken(String call, FlagCore x, int sp, int behind) {
        Check.due(call + ": low byte", x.data(sp), behind % 256);
        Check.due(call + ": high byte", x.data(sp - 1), behind / 256);
        Check.due(call + ": SP", x.told(1), (sp - 2) & 65535);
        Check.due(call + ": count(6)", x.count(6), 1);
    }

    // The same at the first and the last places of the STACK, and "BEYOND: .. nothing changes then".
    private static void callsAtTheEndsOfTheStack() {
        int[][] calls = {{w("RCALL", 'k', 9)}, {w("ICALL")}, {w("CALL", 'k', 0), 17}};
        for (int[] call : calls) {
            for (int sp : new int[] {1, 2, 255, 256, 1022, 1023}) {
                FlagCore x = Check.at(700, call);
                Check.setPair(x, Z, 17);
                Check.setPair(x, SP, sp);
                String name = Patterns.name(call[0]) + " with SP " + sp;
                step(name, x, FlagCore.DONE, call.length == 1 && call[0] != w("ICALL") ? 710 : 17);
                taken(name, x, sp, 700 + call.length);
            }
            for (int sp : NO_PLACE_FOR_A_CALL) {
                FlagCore x = Check.at(700, call);
                x.put(FLAGS, 0x7F);
                x.ask(3);
                Check.setPair(x, SP, sp);
                Check.nothingBut(Patterns.name(call[0]) + " with SP " + sp, x, FlagCore.BEYOND);
                Check.due("byte 0", x.data(0), 0);
            }
        }
    }

    // "Places are told .. by SP, as it was ahead; it becomes .. less 1, behind what is done there": for both bytes
    private static void callsAtTheStacksOwnPlaces() {
        for (int sp = 92; sp <= 96; sp++) {
            FlagCore x = Check.at(0x2A5, w("RCALL", 'k', 9));
            Check.setPair(x, SP, sp);
            x.put(FLAGS, 0x11);
            String call = "RCALL with SP " + sp;
            step(call, x, FlagCore.DONE, 0x2AF);
            Check.due(call + ": SP", x.told(1), sp - 2);
            Check.due(call + ": FLAGS", x.told(2), sp == 95 ? 0xA6 : sp == 96 ? 2 : 0x11);
            Check.due(call + ": byte 92", x.data(92), sp == 92 ? 0xA6 : sp == 93 ? 2 : 0);
            Check.due(call + ": byte 91", x.data(91), sp == 92 ? 2 : 0);
        }
        // Z is looked at as it was ahead, though the STACK lies over it
        for (int sp : new int[] {30, 31, 32}) {
            FlagCore x = Check.at(0x2A5, w("ICALL"));
            Check.setPair(x, Z, 40);
            Check.setPair(x, SP, sp);
            step("ICALL with SP " + sp, x, FlagCore.DONE, 40);
            Check.due("ICALL with SP " + sp + ": low", x.data(sp), 0xA6);
            Check.due("ICALL with SP " + sp + ": high", x.data(sp - 1), 2);
        }
    }

    // "1001 0101 0000 1000 PC becomes what comes from the STACK (high byte, then low); 0001 1000 this, and I becomes 1."
    private static void returnsAtTheirEdges() {
        int[][] rows = {{0, 0, 0}, {3, 255, 1023}, {4, 0, 0}, {0, 255, 255}, {1, 0, 256}, {255, 255, 1023}, {255, 0, 768}};
        for (int word : new int[] {RET, RETI}) {
            for (int[] row : rows) {
                FlagCore x = Check.at(1023, word);
                x.put(1001, row[0]);
                x.put(1002, row[1]);
                String call = Patterns.name(word) + " to " + row[0] + ", " + row[1];
                step(call, x, FlagCore.DONE, row[2]);
                Check.due(call + ": SP", x.told(1), 1002);
                Check.due(call + ": FLAGS", x.told(2), word == RETI ? 128 : 0);
                Check.due(call + ": count(6)", x.count(6), 0);
            }
            for (int sp : new int[] {65535, 0, 254, 255, 1020, 1021}) {
                FlagCore x = Check.at(7, word);
                Check.setPair(x, SP, sp);
                x.put(sp + 1 & 65535, 2);
                x.put(sp + 2 & 65535, 9);
                step(Patterns.name(word) + " with SP " + sp, x, FlagCore.DONE, 521);
                Check.due(Patterns.name(word) + " with SP " + sp + ": SP", x.told(1), sp + 2 & 65535);
            }
            for (int sp : new int[] {1022, 1023, 1024, 32767, 65532, 65533, 65534}) {
                FlagCore x = Check.at(7, word);
                Check.setPair(x, SP, sp);
                Check.nothingBut(Patterns.name(word) + " with SP " + sp, x, FlagCore.BEYOND);
            }
        }
        FlagCore x = Check.at(7, RETI);
        x.put(FLAGS, 255);
        step("RETI where I is 1", x, FlagCore.DONE, 0);
        Check.due("RETI where I is 1: FLAGS", x.told(2), 255);
    }

    // "SP one more, then there", for both bytes, where they are SP's own
    private static void returnsFromTheStacksOwnPlaces() {
        int[][] rows = {{90, 0, 92}, {91, 0, 93}, {92, 93, 0}, {93, 0, 0x55}, {94, 0x55, 0}};
        for (int word : new int[] {RET, RETI}) {
            for (int[] row : rows) {
                FlagCore x = Check.at(7, word);
                Check.setPair(x, SP, row[0]);
                x.put(FLAGS, 0x55);
                // at 90 the second byte, 92, is no one's own
                if (row[0] == 90) {
                    x.put(92, 92);
                }
                String call = Patterns.name(word) + " with SP " + row[0];
                step(call, x, FlagCore.DONE, (row[1] * 256 + row[2]) % 1024);
                Check.due(call + ": SP", x.told(1), row[0] + 2);
                Check.due(call + ": FLAGS", x.told(2), word == RETI ? 0xD5 : 0x55);
            }
        }
    }

    // "SKIP: PC goes over the next word, and over one more, if that is one of those with a next word"
    private static void skipsOverEachWord() {
        for (int next = 0; next < 65536; next += next % 16 == 0 || next >> 9 == 0x4A ? 1 : 5) {
            boolean two = Patterns.hasNext(next);
            FlagCore x = Check.at(7, SKIP_IF_ALIKE[next % 3], next, NOP);
            step("SKIP over " + next, x, FlagCore.DONE, two ? 10 : 9);
            Check.due("SKIP over " + next + ": count(4)", x.count(4), two ? 0 : 1);
            Check.due("SKIP over " + next + ": count(5)", x.count(5), two ? 1 : 0);
        }
    }

    // The same at the end of CODE: the next word is looked for modulo 1024, as PC is.
    private static void skipsGoRound() {
        for (int skip : SKIP_IF_ALIKE) {
            for (int pc : new int[] {1020, 1021, 1022, 1023}) {
                for (int next : new int[] {NOP, ILLEGAL_WORD, 0xFFFF, 0x9000, 0x9200, 0x940C, 0x940E, 0x8000, 0x9001, RET}) {
                    int over = Patterns.hasNext(next) ? 3 : 2;
                    step("SKIP over " + next + " at " + pc, Check.at(pc, skip, next), FlagCore.DONE, (pc + over) % 1024);
                }
            }
        }
    }

    // "SKIP, if alike (no flags)"; "1001 1001 SKIP, if it is 0, 1001 1011, if 1"; "SKIP, if bit b of d is 0; 1111 111 if 1"
    private static void skipsAreTakenOrNot() {
        for (int d : new int[] {0, 15, 16, 31}) {
            for (int r : new int[] {1, 14, 17, 30}) {
                skip(w("CPSE", 'd', d, 'r', r), d, 128, r, 128, true);
                skip(w("CPSE", 'd', d, 'r', r), d, 128, r, 0, false);
                skip(w("CPSE", 'd', d, 'r', r), d, 0, r, 1, false);
            }
            for (int b = 0; b < 8; b++) {
                skip(w("SBRC", 'd', d, 'b', b), d, 255 - (1 << b), 63, 255, true);
                skip(w("SBRC", 'd', d, 'b', b), d, 1 << b, 63, 0, false);
                skip(w("SBRS", 'd', d, 'b', b), d, 1 << b, 63, 0, true);
                skip(w("SBRS", 'd', d, 'b', b), d, 255 - (1 << b), 63, 255, false);
                skip(w("SBIC", 'A', d, 'b', b), 32 + d, 255 - (1 << b), 31, 255, true);
                skip(w("SBIC", 'A', d, 'b', b), 32 + d, 1 << b, 31, 0, false);
                skip(w("SBIS", 'A', d, 'b', b), 32 + d, 1 << b, 31, 0, true);
                skip(w("SBIS", 'A', d, 'b', b), 32 + d, 255 - (1 << b), 31, 255, false);
            }
        }
    }

    private static void skip(int word, int place, int v, int other, int otherV, boolean taken) {
        for (int flags : new int[] {0, 255}) {
            FlagCore x = Check.at(7, word, NOP);
            x.put(other, otherV);
            x.put(place, v);
            x.put(FLAGS, flags);
            String call = Patterns.name(word) + " of " + v + " at " + place;
            step(call, x, FlagCore.DONE, taken ? 9 : 8);
            Check.due(call + ": FLAGS", x.told(2), flags);
            Check.due(call + ": count(4)", x.count(4), taken ? 1 : 0);
            Check.due(call + ": count(5)", x.count(5), 0);
        }
    }

    // "A step: if I is 1, one is asked for, and no step is to be WAITED for": each of the three, and all
    private static void vectorsEnterOnlyIf() {
        for (int flags : new int[] {0, 127, 128, 255}) {
            for (int asked = 0; asked < 2; asked++) {
                for (int waited = 0; waited < 2; waited++) {
                    FlagCore x = Check.at(7, SEI, NOP);
                    x.go(waited == 1 ? 7 : 8);
                    if (waited == 1) {
                        x.step();
                    }
                    x.put(FLAGS, flags);
                    if (asked == 1) {
                        x.ask(9);
                    }
                    boolean enters = flags > 127 && asked == 1 && waited == 0;
                    String call = "FLAGS " + flags + ", asked " + asked + ", waited " + waited;
                    Check.due(call + ": told(6)", x.told(6), waited);
                    step(call, x, enters ? FlagCore.ENTERED : FlagCore.DONE, enters ? 18 : 9);
                    Check.due(call + ": FLAGS", x.told(2), enters ? flags - 128 : flags);
                    Check.due(call + ": told(7)", x.told(7), enters || asked == 0 ? 0 : 512);
                }
            }
        }
    }

    // "the least is no longer asked for; a CALL to CODE 2 times it, I becomes 0 (ENTERED)": from 1 up to 25
    private static void theLeastVectorIsFirst() {
        FlagCore x = Check.at(0x3FF, NOP);
        for (int vector = 25; vector >= 1; vector--) {
            x.ask(vector);
        }
        int left = (1 << 26) - 2;
        for (int vector = 1; vector <= 25; vector++) {
            x.put(FLAGS, 255);
            Check.setPair(x, SP, 1023);
            int behind = x.told(0);
            step("vector " + vector, x, FlagCore.ENTERED, 2 * vector);
            left -= 1 << vector;
            Check.due("vector " + vector + ": told(7)", x.told(7), left);
            Check.due("vector " + vector + ": FLAGS", x.told(2), 127);
            Check.due("vector " + vector + ": low", x.data(1023), behind % 256);
            Check.due("vector " + vector + ": high", x.data(1022), behind / 256);
            Check.due("vector " + vector + ": SP", x.told(1), 1021);
            Check.due("vector " + vector + ": count(1)", x.count(1), vector);
            Check.due("vector " + vector + ": count(6)", x.count(6), 0);
        }
        x.put(FLAGS, 128);
        step("none is left", x, FlagCore.DONE, 51);
    }

    // "BEYOND as CALL: nothing changes", and the first and last places that are not
    private static void vectorsAtTheEndsOfTheStack() {
        for (int sp : NO_PLACE_FOR_A_CALL) {
            FlagCore x = Check.at(7, NOP);
            x.put(FLAGS, 128);
            x.ask(1);
            x.ask(25);
            Check.setPair(x, SP, sp);
            Check.nothingBut("a vector with SP " + sp, x, FlagCore.BEYOND);
            Check.nothingBut("a vector with SP " + sp + " again", x, FlagCore.BEYOND);
            Check.due("a vector with SP " + sp + ": byte 0", x.data(0), 0);
        }
        for (int sp : new int[] {1, 2, 1022, 1023}) {
            FlagCore x = Check.at(513, NOP);
            x.put(FLAGS, 128);
            x.ask(25);
            Check.setPair(x, SP, sp);
            step("a vector with SP " + sp, x, FlagCore.ENTERED, 50);
            Check.due("a vector with SP " + sp + ": low", x.data(sp), 1);
            Check.due("a vector with SP " + sp + ": high", x.data(sp - 1), 2);
            Check.due("a vector with SP " + sp + ": SP", x.told(1), sp - 2 & 65535);
        }
        // a CALL, then I becomes 0: so also in the byte that the CALL left in FLAGS
        FlagCore x = Check.at(0x2A5, NOP);
        x.put(FLAGS, 128);
        x.ask(4);
        Check.setPair(x, SP, FLAGS);
        step("a vector over FLAGS", x, FlagCore.ENTERED, 8);
        Check.due("a vector over FLAGS", x.told(2), 0x25);
    }

    // A vector goes ahead of the word at PC, whatever that is.
    private static void vectorsGoAheadOfTheWord() {
        for (int word : new int[] {ILLEGAL_WORD, SEI, RETI, 0x9000}) {
            FlagCore x = Check.at(7, word, 1024);
            x.put(FLAGS, 128);
            x.ask(2);
            step("a vector ahead of " + word, x, FlagCore.ENTERED, 4);
            Check.due("a vector ahead of " + word + ": told(6)", x.told(6), 0);
            Check.due("a vector ahead of " + word + ": count(2)", x.count(2), 0);
        }
    }

    // "Behind a step that did 1001 0100 0111 1000 or 1001 0101 0001 1000 the next one is WAITED for": those alone
    private static void whatIsWaitedBehind() {
        for (int kind = 0; kind < Patterns.kinds(); kind++) {
            List<Integer> words = Patterns.wordsOf(kind);
            for (int i = 0; i < words.size(); i += 1 + words.size() / 200) {
                int word = words.get(i);
                FlagCore x = ready(7, word);
                x.put(FLAGS, 128);
                Check.due("a word of " + Patterns.name(word), x.step(), FlagCore.DONE);
                Check.due("told(6) behind " + word, x.told(6), word == SEI || word == RETI ? 1 : 0);
            }
        }
        FlagCore x = Check.at(7, SEI, 0x94F8, NOP);
        x.ask(5);
        step("I becomes 1", x, FlagCore.DONE, 8);
        step("the step WAITED for makes I 0", x, FlagCore.DONE, 9);
        Check.due("told(6)", x.told(6), 0);
        step("I is 0", x, FlagCore.DONE, 10);
    }

    // The step that is WAITED for is one, however it comes to PC; behind it the vector enters.
    private static void oneStepIsWaitedFor() {
        for (int word : new int[] {SEI, RETI}) {
            for (int next : new int[] {NOP, 0xD000, 0xC000, 0x1000, 0x920F}) {
                FlagCore x = Check.at(7, word);
                x.put(1002, 8);
                x.code(8, next);
                x.ask(25);
                step("what lets it in", x, FlagCore.DONE, 8);
                Check.due("told(6) ahead of " + next, x.told(6), 1);
                Check.due("the step WAITED for, " + next, x.step(), FlagCore.DONE);
                Check.due("told(6) behind " + next, x.told(6), 0);
                step("the vector behind " + next, x, FlagCore.ENTERED, 50);
                Check.due("told(6) behind the vector", x.told(6), 0);
            }
        }
        // wherever I came from else, no step is WAITED for
        FlagCore x = Check.at(7, w("OUT", 'd', 3, 'A', 63), NOP);
        x.put(3, 128);
        x.ask(1);
        step("port 63 becomes 128", x, FlagCore.DONE, 8);
        step("the vector at once", x, FlagCore.ENTERED, 2);
    }

    // A step that is WAITED for may let in, too: then the next one is.
    private static void waitedOnceMore() {
        FlagCore x = Check.at(7, SEI, SEI, RETI);
        x.put(1002, 10);
        x.ask(1);
        for (int pc = 8; pc <= 10; pc++) {
            step("one more that lets in", x, FlagCore.DONE, pc);
            Check.due("told(6) at " + pc, x.told(6), 1);
            Check.due("told(7) at " + pc, x.told(7), 2);
        }
        step("the one WAITED for", x, FlagCore.DONE, 11);
        Check.due("told(6)", x.told(6), 0);
        step("the vector", x, FlagCore.ENTERED, 2);
    }

    // "(as long as it is ILLEGAL, BEYOND)"
    private static void waitedAsLongAsNothingIsDone() {
        for (int word : new int[] {SEI, RETI}) {
            FlagCore x = Check.at(7, word);
            x.put(1002, 8);
            x.code(8, ILLEGAL_WORD);
            x.ask(1);
            step("what lets it in", x, FlagCore.DONE, 8);
            for (int i = 0; i < 3; i++) {
                Check.nothingBut("ILLEGAL while WAITED for", x, FlagCore.ILLEGAL);
                Check.due("told(6) behind ILLEGAL", x.told(6), 1);
            }
            Check.setPair(x, SP, 0);
            for (int beyond : new int[] {0xD000, RET, RETI, 0x900F}) {
                Check.setPair(x, SP, beyond == 0xD000 ? 0 : 1023);
                x.code(8, beyond);
                Check.nothingBut("BEYOND while WAITED for", x, FlagCore.BEYOND);
                Check.due("told(6) behind BEYOND", x.told(6), 1);
            }
            Check.due("run(3000) while WAITED for", x.run(3000), 0);
            Check.due("told(6) behind run", x.told(6), 1);
            x.go(500);
            step("a step at last", x, FlagCore.DONE, 501);
            Check.due("told(6) at last", x.told(6), 0);
            step("the vector at last", x, FlagCore.ENTERED, 2);
        }
    }

    // "Behind a step that did": a BEYOND one of them did nothing; ILLEGAL and BEYOND ahead are not WAITED behind
    private static void notWaitedBehindWhatDidNothing() {
        FlagCore x = Check.at(7, RETI);
        Check.setPair(x, SP, 1022);
        Check.nothingBut("RETI beyond", x, FlagCore.BEYOND);
        Check.due("told(6) behind RETI beyond", x.told(6), 0);
        x.put(FLAGS, 128);
        x.ask(1);
        step("the vector at once", x, FlagCore.ENTERED, 2);
        x = Check.at(7, ILLEGAL_WORD);
        x.step();
        Check.due("told(6) behind ILLEGAL", x.told(6), 0);
        x.put(FLAGS, 128);
        x.ask(1);
        step("the vector behind ILLEGAL", x, FlagCore.ENTERED, 2);
    }

    public static void main(String[] args) {
        pcGoesRoundBehindEachWord();
        nothingChangesPcAlone();
        illegalChangesNothing();
        nearJumpsAtTheirEdges();
        branchesAtTheirEdges();
        jumpsToZ();
        farJumps();
        callsAtTheEndsOfTheStack();
        callsAtTheStacksOwnPlaces();
        returnsAtTheirEdges();
        returnsFromTheStacksOwnPlaces();
        skipsOverEachWord();
        skipsGoRound();
        skipsAreTakenOrNot();
        vectorsEnterOnlyIf();
        theLeastVectorIsFirst();
        vectorsAtTheEndsOfTheStack();
        vectorsGoAheadOfTheWord();
        whatIsWaitedBehind();
        oneStepIsWaitedFor();
        waitedOnceMore();
        waitedAsLongAsNothingIsDone();
        notWaitedBehindWhatDidNothing();
        Check.finish("FlowEdgesTest");
    }
}
