/** Promises 10, 11, 12 and 15, and VECTORS: where PC goes, what waits, what is counted. */
public final class FlowTest {
    private static final int SP = 93, FLAGS = 95, Z = 30;

    private static int w(String name, int... numbers) {
        return Patterns.word(name, numbers);
    }

    private static void stepTo(FlagCore x, String call, int how, int pc) {
        Check.due(call, x.step(), how);
        Check.due(call + ": ended()", x.ended(), how);
        Check.due(call + ": PC", x.told(0), pc);
    }

    private static FlagCore at(int pc, int... words) {
        return Check.at(pc, words);
    }

    private static void jumps() {
        stepTo(at(1023, 0), "nothing at the end", 0, 0);
        stepTo(at(5, w("RJMP", 'k', 0)), "RJMP 0", 0, 6);
        stepTo(at(5, w("RJMP", 'k', 2047)), "RJMP 2047", 0, (6 + 2047) % 1024);
        stepTo(at(5, w("RJMP", 'k', 2048)), "RJMP -2048", 0, 6);
        stepTo(at(5, w("RJMP", 'k', 4095)), "RJMP -1", 0, 5);
        stepTo(at(0, w("RJMP", 'k', 4090)), "RJMP -6", 0, 1019);
        stepTo(at(7, w("JMP", 'k', 63), 0xFFFF), "JMP", 0, 1023);
        stepTo(at(7, w("JMP", 'k', 62), 9), "JMP, k even", 0, 9);
        stepTo(at(1023, w("JMP", 'k', 0), 0x0405), "JMP over the end", 0, 5);
        FlagCore x = at(7, w("IJMP"));
        Check.setPair(x, Z, 0xFC07);
        stepTo(x, "IJMP", 0, 7);
        Check.due("IJMP: count(6)", x.count(6), 0);
    }

    private static void branches() {
        for (int s = 0; s < 8; s++) {
            for (int k : new int[] {0, 1, 63, 64, 127}) {
                int taken = Math.floorMod(11 + (k > 63 ? k - 128 : k), 1024);
                FlagCore x = at(10, w("BRBS", 'k', k, 's', s));
                stepTo(x, "BRBS, not set", 0, 11);
                x.go(10);
                x.put(FLAGS, 1 << s);
                stepTo(x, "BRBS, set", 0, taken);
                x = at(10, w("BRBC", 'k', k, 's', s));
                stepTo(x, "BRBC, not set", 0, taken);
                x.go(10);
                x.put(FLAGS, 1 << s);
                stepTo(x, "BRBC, set", 0, 11);
            }
        }
    }

    private static void called(FlagCore x, String call, int pc, int behind) {
        stepTo(x, call, 0, pc);
        Check.due(call + ": low", x.data(1000), behind & 255);
        Check.due(call + ": high", x.data(999), behind >> 8);
        Check.due(call + ": SP", x.told(1), 998);
        Check.due(call + ": count(6)", x.count(6), 1);
    }

    private static void calls() {
        called(at(300, w("RCALL", 'k', 100)), "RCALL", 401, 301);
        called(at(1023, w("RCALL", 'k', 4095)), "RCALL at the end", 1023, 0);
        called(at(510, w("CALL", 'k', 63), 77), "CALL", 77, 512);
        called(at(1022, w("CALL", 'k', 0), 1024), "CALL at the end", 0, 0);
        FlagCore x = at(900, w("ICALL"));
        Check.setPair(x, Z, 1029);
        called(x, "ICALL", 5, 901);
        x = at(900, w("ICALL"));
        Check.setPair(x, Z, 40);
        Check.setPair(x, SP, 31);
        stepTo(x, "ICALL with Z under the stack", 0, 40);
        Check.due("ICALL with Z under the stack: Z", x.told(5), (901 & 255) * 256 + (901 >> 8));
    }

    private static void callsBeyond() {
        int[][] words = {{w("RCALL", 'k', 1)}, {w("ICALL")}, {w("CALL", 'k', 0), 5}};
        for (int[] call : words) {
            for (int sp : new int[] {0, 1024, 1025, 65535}) {
                FlagCore x = at(9, call);
                Check.setPair(x, SP, sp);
                int was = x.digest();
                stepTo(x, "call with SP " + sp, FlagCore.BEYOND, 9);
                Check.due("call with SP " + sp + ": digest()", x.digest(), was);
                Check.due("call with SP " + sp + ": count(6)", x.count(6), 0);
            }
            for (int sp : new int[] {1, 1023}) {
                FlagCore x = at(9, call);
                Check.setPair(x, SP, sp);
                Check.due("call with SP " + sp, x.step(), FlagCore.DONE);
                Check.due("call with SP " + sp + ": SP", x.told(1), (sp - 2) & 65535);
            }
        }
    }

    private static void returns() {
        FlagCore x = at(50, w("RET"));
        x.put(1001, 0xFE);
        x.put(1002, 0x12);
        stepTo(x, "RET", 0, 0x212);
        Check.due("RET: SP", x.told(1), 1002);
        Check.due("RET: FLAGS", x.told(2), 0);
        Check.due("RET: not WAITED", x.told(6), 0);
        x.code(0x212, w("RETI"));
        x.put(1003, 1);
        x.put(1004, 2);
        stepTo(x, "RETI", 0, 258);
        Check.due("RETI: FLAGS", x.told(2), 0x80);
        Check.due("RETI: WAITED", x.told(6), 1);
        Check.due("RETI: count(6)", x.count(6), 0);
        for (int word : new int[] {w("RET"), w("RETI")}) {
            for (int sp : new int[] {1022, 1023, 65533, 65534}) {
                x = at(9, word);
                Check.setPair(x, SP, sp);
                stepTo(x, "return with SP " + sp, FlagCore.BEYOND, 9);
                Check.due("return with SP " + sp + ": SP", x.told(1), sp);
                Check.due("return with SP " + sp + ": FLAGS", x.told(2), 0);
                Check.due("return with SP " + sp + ": WAITED", x.told(6), 0);
            }
            x = at(9, word);
            Check.setPair(x, SP, 1021);
            x.put(1022, 2);
            x.put(1023, 6);
            stepTo(x, "return with SP 1021", 0, 518);
            Check.due("return with SP 1021: SP", x.told(1), 1023);
            x = at(9, word);
            Check.setPair(x, SP, 65535);
            x.put(0, 1);
            x.put(1, 4);
            stepTo(x, "return with SP 65535", 0, 260);
            Check.due("return with SP 65535: SP", x.told(1), 1);
            x = at(9, word);
            Check.setPair(x, SP, 91);
            stepTo(x, "return through SP's own place", 0, 93);
            Check.due("return through SP's own place: SP", x.told(1), 93);
        }
    }

    private static void skips() {
        int[] over = {w("CPSE", 'd', 1, 'r', 2), w("SBIC", 'A', 7, 'b', 3), w("SBIS", 'A', 7, 'b', 2),
            w("SBRC", 'd', 1, 'b', 4), w("SBRS", 'd', 1, 'b', 5)};
        int[] not = {w("CPSE", 'd', 1, 'r', 3), w("SBIC", 'A', 7, 'b', 2), w("SBIS", 'A', 7, 'b', 3),
            w("SBRC", 'd', 1, 'b', 5), w("SBRS", 'd', 1, 'b', 4)};
        int[] next = {0, 0xFFFF, w("LDD", 'd', 0, 'p', 0, 'q', 0), w("LDS", 'd', 31), w("STS", 'd', 0), w("JMP", 'k', 63),
            w("CALL", 'k', 0), w("IJMP"), w("PUSH", 'd', 3)};
        for (int i = 0; i < over.length; i++) {
            for (int behind : next) {
                for (int pc : new int[] {20, 1021, 1022, 1023}) {
                    boolean two = Patterns.hasNext(behind);
                    FlagCore x = at(pc, over[i], behind);
                    x.put(1, 0x20);
                    x.put(2, 0x20);
                    x.put(39, 4);
                    x.put(FLAGS, 0x55);
                    stepTo(x, "skip " + i + " over " + behind, 0, (pc + (two ? 3 : 2)) % 1024);
                    Check.due("skip: count(4)", x.count(4), two ? 0 : 1);
                    Check.due("skip: count(5)", x.count(5), two ? 1 : 0);
                    Check.due("skip: FLAGS", x.told(2), 0x55);
                    x.go(pc);
                    x.code(pc, not[i]);
                    stepTo(x, "no skip " + i + " over " + behind, 0, (pc + 1) % 1024);
                    Check.due("no skip: counts", x.count(4) + x.count(5), 1);
                }
            }
        }
    }

    private static void vectorsEnter() {
        FlagCore x = at(300, w("NOP"), w("NOP"));
        x.ask(25);
        x.ask(7);
        stepTo(x, "I is 0", FlagCore.DONE, 301);
        x.put(FLAGS, 0xFF);
        stepTo(x, "ENTERED", FlagCore.ENTERED, 14);
        Check.due("ENTERED: I", x.told(2), 0x7F);
        Check.due("ENTERED: VECTORS", x.told(7), 1 << 25);
        Check.due("ENTERED: low", x.data(1000), 45);
        Check.due("ENTERED: high", x.data(999), 1);
        Check.due("ENTERED: SP", x.told(1), 998);
        stepTo(x, "I is 0 again", FlagCore.DONE, 15);
        Check.due("count(0)", x.count(0), 2);
        Check.due("count(1)", x.count(1), 1);
        Check.due("count(6)", x.count(6), 0);
        x.put(FLAGS, 0x80);
        Check.setPair(x, SP, 95);
        x.go(0x3FF);
        stepTo(x, "ENTERED over FLAGS", FlagCore.ENTERED, 50);
        Check.due("ENTERED over FLAGS: I", x.told(2), 0x7F);
        Check.due("none is asked for", x.told(7), 0);
        x.put(FLAGS, 0x80);
        stepTo(x, "none to enter", FlagCore.DONE, 51);
    }

    private static void vectorsBeyond() {
        for (int sp : new int[] {0, 1024, 65535}) {
            FlagCore x = at(9, w("NOP"));
            x.ask(3);
            x.put(FLAGS, 0x80);
            Check.setPair(x, SP, sp);
            int was = x.digest();
            stepTo(x, "vector with SP " + sp, FlagCore.BEYOND, 9);
            Check.due("vector with SP " + sp + ": digest()", x.digest(), was);
            Check.due("vector with SP " + sp + ": VECTORS", x.told(7), 8);
            Check.due("vector with SP " + sp + ": run(5)", x.run(5), 0);
            Check.due("vector with SP " + sp + ": count(3)", x.count(3), 2);
            Check.setPair(x, SP, 1);
            stepTo(x, "vector with SP 1", FlagCore.ENTERED, 6);
        }
    }

    private static void vectorsWait() {
        FlagCore x = at(9, w("BSET", 's', 7), w("BSET", 's', 7), 1, w("NOP"));
        x.ask(2);
        stepTo(x, "I becomes 1", FlagCore.DONE, 10);
        Check.due("WAITED", x.told(6), 1);
        stepTo(x, "once more", FlagCore.DONE, 11);
        Check.due("WAITED once more", x.told(6), 1);
        stepTo(x, "ILLEGAL", FlagCore.ILLEGAL, 11);
        Check.due("WAITED behind ILLEGAL", x.told(6), 1);
        stepTo(x, "ILLEGAL again", FlagCore.ILLEGAL, 11);
        x.code(11, w("LDS", 'd', 0));
        x.code(12, 5000);
        stepTo(x, "BEYOND", FlagCore.BEYOND, 11);
        Check.due("WAITED behind BEYOND", x.told(6), 1);
        x.go(700);
        Check.due("WAITED behind go", x.told(6), 1);
        stepTo(x, "the step that was WAITED for", FlagCore.DONE, 701);
        Check.due("no longer WAITED", x.told(6), 0);
        stepTo(x, "ENTERED at last", FlagCore.ENTERED, 4);
        Check.due("not WAITED behind ENTERED", x.told(6), 0);
        x.code(4, w("RETI"));
        x.ask(1);
        stepTo(x, "RETI", FlagCore.DONE, 701);
        stepTo(x, "one step behind RETI", FlagCore.DONE, 702);
        stepTo(x, "and the next one", FlagCore.ENTERED, 2);
        int[] others = {w("BSET", 's', 6), w("BCLR", 's', 7), w("SBI", 'A', 31, 'b', 7), w("OUT", 'd', 0, 'A', 63)};
        for (int word : others) {
            x = at(9, word);
            x.put(0, 0x80);
            x.step();
            Check.due("not WAITED behind " + word, x.told(6), 0);
        }
    }

    private static void runs() {
        FlagCore x = at(0, w("RJMP", 'k', 4095));
        for (int steps : new int[] {0, -1, 3001, Integer.MAX_VALUE, Integer.MIN_VALUE}) {
            Check.due("run(" + steps + ")", x.run(steps), FlagCore.BAD);
        }
        Check.due("count(0)", x.count(0), 0);
        Check.due("run(1)", x.run(1), 1);
        Check.due("run(3000)", x.run(3000), 3000);
        Check.due("count(0)", x.count(0), 3001);
        x.ask(5);
        x.ask(6);
        x.put(FLAGS, 0x80);
        x.code(10, w("BSET", 's', 7));
        x.code(12, 1);
        Check.due("run(100)", x.run(100), 4);
        Check.due("run(100): ended()", x.ended(), FlagCore.ILLEGAL);
        Check.due("run(100): PC", x.told(0), 12);
        Check.due("run(100): count(0)", x.count(0), 3003);
        Check.due("run(100): count(1)", x.count(1), 2);
        Check.due("run(100): count(2)", x.count(2), 1);
        Check.due("run(3)", x.run(3), 0);
        Check.due("run(3): count(2)", x.count(2), 2);
        x.code(12, w("POP", 'd', 3));
        Check.setPair(x, SP, 1022);
        x.code(13, w("POP", 'd', 4));
        Check.due("run(9)", x.run(9), 1);
        Check.due("run(9): ended()", x.ended(), FlagCore.BEYOND);
        Check.due("run(9): count(3)", x.count(3), 1);
        Check.due("run(9): SP", x.told(1), 1023);
    }

    private static void aLoopIsRun() {
        // R17 becomes 1 + 2 + .. + 10
        FlagCore x = at(0, w("LDI", 'D', 0, 'K', 10), w("ADD", 'd', 17, 'r', 16), w("DEC", 'd', 16),
            w("BRBC", 's', 1, 'k', 125), 0xFFFF);
        Check.due("loop: run(3000)", x.run(3000), 31);
        Check.due("loop: R17", x.data(17), 55);
        Check.due("loop: PC", x.told(0), 4);
    }

    public static void main(String[] args) {
        jumps();
        branches();
        calls();
        callsBeyond();
        returns();
        skips();
        vectorsEnter();
        vectorsBeyond();
        vectorsWait();
        runs();
        aLoopIsRun();
        Check.finish("FlowTest");
    }
}
