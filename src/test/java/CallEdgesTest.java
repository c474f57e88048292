/** The document's boundary cases of calls, promise by promise: the first and last that are taken, the next that are BAD. */
public final class CallEdgesTest {
    private static final int NOP = 0, ILLEGAL_WORD = 1, SEI = 0x9478;
    private static final int[] NOT_PLACES = {-1, 1024, -1024, 2047, 65536, Integer.MIN_VALUE, Integer.MAX_VALUE};

    /** An object in which nothing that a refused call might change is 0. */
    private static FlagCore busy() {
        FlagCore x = Check.at(1000, SEI, NOP);
        x.code(0, 0xABCD);
        x.code(1023, 0x1234);
        for (int place : new int[] {0, 26, 27, 28, 29, 30, 31, 1023}) {
            x.put(place, place * 7 & 255 | 1);
        }
        x.ask(3);
        x.ask(25);
        x.step();
        return x;
    }

    // Promise 1: All is 0.
    private static void aNewObjectIsAllZero() {
        FlagCore words = new FlagCore();
        FlagCore bytes = new FlagCore();
        for (int place = 0; place < 1024; place++) {
            if (place % 500 == 0) {
                words = new FlagCore();
                bytes = new FlagCore();
            }
            Check.due("new: word(" + place + ")", words.word(place), 0);
            Check.due("new: data(" + place + ")", bytes.data(place), 0);
        }
        FlagCore x = new FlagCore();
        long[] state = Check.state(x);
        for (int i = 0; i < state.length; i++) {
            Check.due("new: state " + i, state[i], i == 16 ? sevenTimesThirtyOnes() : 0);
        }
    }

    private static int sevenTimesThirtyOnes() {
        long h = 7;
        for (int i = 0; i < 1025; i++) {
            h = h * 31 % 4294967296L;
        }
        return (int) h;
    }

    // Promise 2, Terms: CODE has 1024 words (0 .. 65535). "what it was. BAD."
    private static void codeAtItsEdges() {
        for (int place : new int[] {0, 1, 1022, 1023}) {
            FlagCore x = new FlagCore();
            Check.due("code(" + place + ", 65535)", x.code(place, 65535), 0);
            Check.due("word(" + place + ")", x.word(place), 65535);
            Check.due("code(" + place + ", 0)", x.code(place, 0), 65535);
            Check.due("word(" + place + ")", x.word(place), 0);
        }
        FlagCore x = busy();
        long[] was = Check.state(x);
        for (int place : NOT_PLACES) {
            Check.refused("code(" + place + ", 1)", x, was, x.code(place, 1));
        }
        x = busy();
        for (int w : new int[] {-1, 65536, -65536, Integer.MIN_VALUE, Integer.MAX_VALUE}) {
            Check.refused("code(0, " + w + ")", x, was, x.code(0, w));
            Check.refused("code(1023, " + w + ")", x, was, x.code(1023, w));
        }
        Check.refused("code(-1, -1)", x, was, x.code(-1, -1));
        Check.refused("code(1024, 65536)", x, was, x.code(1024, 65536));
    }

    // Promise 3: "from an address on (modulo 1024): 1. BAD: the address."
    private static void loadAtItsEdges() {
        for (int place : new int[] {0, 1, 1019, 1020, 1021, 1022, 1023}) {
            FlagCore x = new FlagCore();
            String call = "load(" + place + ", ..)";
            Check.due(call, x.load(place, 0xFFFF_8000_7FFF_0001L), 1);
            int[] due = {0xFFFF, 0x8000, 0x7FFF, 1};
            for (int i = 0; i < 4; i++) {
                Check.due(call + ": word " + i, x.word((place + i) % 1024), due[i]);
            }
            Check.due(call + ": the word ahead", x.word((place + 1023) % 1024), 0);
            Check.due(call + ": the word behind", x.word((place + 4) % 1024), 0);
        }
        FlagCore x = busy();
        long[] was = Check.state(x);
        for (int place : NOT_PLACES) {
            Check.refused("load(" + place + ", -1)", x, was, x.load(place, -1L));
        }
        int[] ends = {0x8000, 0, 0, 0, 0x7FFF, 65535, 65535, 65535, 65535, 65535, 65535, 65535};
        Check.due("load(4, the least)", x.load(4, Long.MIN_VALUE), 1);
        Check.due("load(8, the most)", x.load(8, Long.MAX_VALUE), 1);
        Check.due("load(12, -1)", x.load(12, -1L), 1);
        for (int i = 0; i < ends.length; i++) {
            Check.due("load: word " + (4 + i), x.word(4 + i), ends[i]);
        }
    }

    // Promise 4: "A word of CODE. BAD."
    private static void wordAtItsEdges() {
        FlagCore x = busy();
        long[] was = Check.state(x);
        Check.due("word(0)", x.word(0), 0xABCD);
        Check.due("word(1023)", x.word(1023), 0x1234);
        for (int place : NOT_PLACES) {
            Check.refused("word(" + place + ")", x, was, x.word(place));
        }
    }

    // Promise 5, Terms: DATA has 1024 bytes. "what it was. BAD."
    private static void putAtItsEdges() {
        for (int place : new int[] {0, 1, 31, 32, 92, 93, 94, 95, 96, 1022, 1023}) {
            FlagCore x = new FlagCore();
            Check.due("put(" + place + ", 255)", x.put(place, 255), 0);
            Check.due("data(" + place + ")", x.data(place), 255);
            Check.due("put(" + place + ", 0)", x.put(place, 0), 255);
            Check.due("data(" + place + ")", x.data(place), 0);
        }
        FlagCore x = busy();
        long[] was = Check.state(x);
        for (int place : NOT_PLACES) {
            Check.refused("put(" + place + ", 1)", x, was, x.put(place, 1));
        }
        x = busy();
        for (int v : new int[] {-1, 256, -256, Integer.MIN_VALUE, Integer.MAX_VALUE}) {
            Check.refused("put(0, " + v + ")", x, was, x.put(0, v));
            Check.refused("put(1023, " + v + ")", x, was, x.put(1023, v));
        }
        Check.refused("put(-1, -1)", x, was, x.put(-1, -1));
        Check.refused("put(1024, 256)", x, was, x.put(1024, 256));
    }

    // Promise 6: "A byte of DATA. BAD."
    private static void dataAtItsEdges() {
        FlagCore x = busy();
        long[] was = Check.state(x);
        Check.due("data(0)", x.data(0), 1);
        Check.due("data(1023)", x.data(1023), 1023 * 7 & 255 | 1);
        for (int place : NOT_PLACES) {
            Check.refused("data(" + place + ")", x, was, x.data(place));
        }
    }

    // Promise 7, Terms: "port 61, 62 are SP (low, high byte), port 63 FLAGS"; "(low bytes) with those behind (high)".
    private static void toldAtItsEdges() {
        int[][] places = {{93, 1, 1}, {94, 1, 256}, {95, 2, 1}, {26, 3, 1}, {27, 3, 256}, {28, 4, 1}, {29, 4, 256},
            {30, 5, 1}, {31, 5, 256}};
        for (int[] row : places) {
            FlagCore x = new FlagCore();
            x.put(row[0], 255);
            for (int what = 0; what <= 7; what++) {
                String call = "told(" + what + ") with 255 at " + row[0];
                Check.due(call, x.told(what), what == row[1] ? 255 * row[2] : 0);
            }
        }
        FlagCore x = new FlagCore();
        for (int low : new int[] {26, 28, 30, 93}) {
            Check.setPair(x, low, 65535);
        }
        int[] due = {0, 65535, 0, 65535, 65535, 65535, 0, 0};
        for (int what = 0; what <= 7; what++) {
            Check.due("told(" + what + ") at the most", x.told(what), due[what]);
        }
        x = busy();
        long[] was = Check.state(x);
        for (int what : new int[] {-1, 8, -8, 15, 256, Integer.MIN_VALUE, Integer.MAX_VALUE}) {
            Check.refused("told(" + what + ")", x, was, x.told(what));
        }
    }

    // Promise 7: "6 whether a step is WAITED for, 7 VECTORS that are asked for as bits."
    private static void toldOfVectors() {
        FlagCore x = Check.core(SEI);
        Check.due("told(6) ahead", x.told(6), 0);
        x.step();
        Check.due("told(6) behind", x.told(6), 1);
        Check.due("told(7) of none", x.told(7), 0);
        x.ask(1);
        Check.due("told(7) of the first", x.told(7), 2);
        x.ask(25);
        Check.due("told(7) of the last", x.told(7), 2 + 33554432);
    }

    // Promise 8: "what it was. BAD: 0 .. 1023."
    private static void goAtItsEdges() {
        FlagCore x = new FlagCore();
        Check.due("go(1023)", x.go(1023), 0);
        Check.due("told(0)", x.told(0), 1023);
        Check.due("go(0)", x.go(0), 1023);
        Check.due("told(0)", x.told(0), 0);
        x = busy();
        long[] was = Check.state(x);
        for (int pc : NOT_PLACES) {
            Check.refused("go(" + pc + ")", x, was, x.go(pc));
        }
        Check.due("go(1001), where PC is", x.go(1001), 1001);
        Check.unchanged("go(1001), where PC is", x, was);
    }

    // Promise 9, Terms 2: "VECTORS 1 .. 25 are asked for." "1; it was: 0. BAD."
    private static void askAtItsEdges() {
        for (int vector = 1; vector <= 25; vector++) {
            FlagCore x = new FlagCore();
            Check.due("ask(" + vector + ")", x.ask(vector), 1);
            long[] was = Check.state(x);
            Check.due("told(7)", x.told(7), 1 << vector);
            Check.due("ask(" + vector + ") again", x.ask(vector), 0);
            Check.unchanged("ask(" + vector + ") again", x, was);
        }
        FlagCore x = busy();
        long[] was = Check.state(x);
        int[] not = {0, 26, -1, 27, 31, 32, 33, 57, 64, -31, -7, Integer.MIN_VALUE, Integer.MIN_VALUE + 3, Integer.MAX_VALUE};
        for (int vector : not) {
            Check.refused("ask(" + vector + ")", x, was, x.ask(vector));
        }
    }

    // Promise 9, Terms 2: "the least is no longer asked for", so it may be asked for anew.
    private static void askAgainBehindEntered() {
        FlagCore x = Check.at(9, NOP);
        x.put(95, 128);
        x.ask(25);
        Check.due("step()", x.step(), FlagCore.ENTERED);
        Check.due("ask(25) behind ENTERED", x.ask(25), 1);
        x.put(95, 128);
        Check.setPair(x, 93, 0);
        Check.due("step() with SP 0", x.step(), FlagCore.BEYOND);
        Check.due("ask(25) behind BEYOND", x.ask(25), 0);
    }

    // Promise 10: "One step: how it ended." (Terms: DONE 0, ENTERED 1, ILLEGAL 2, BEYOND 3)
    private static void stepEndsInFourWays() {
        FlagCore x = Check.at(9, NOP, 0x9000, 1024, ILLEGAL_WORD);
        Check.due("step() of nothing", x.step(), 0);
        Check.due("step() beyond", x.step(), 3);
        x.go(12);
        Check.due("step() of no word", x.step(), 2);
        x.put(95, 128);
        x.ask(1);
        Check.due("step() into a vector", x.step(), 1);
    }

    // Promise 11: "So many steps (1 .. 3000)". BAD.
    private static void runAtItsEdges() {
        FlagCore x = Check.at(0, NOP);
        Check.due("run(1)", x.run(1), 1);
        Check.due("run(1): PC", x.told(0), 1);
        Check.due("run(1): count(0)", x.count(0), 1);
        Check.due("run(2)", x.run(2), 2);
        Check.due("run(2): PC", x.told(0), 3);
        Check.due("run(2999)", x.run(2999), 2999);
        Check.due("run(3000)", x.run(3000), 3000);
        Check.due("run: count(0)", x.count(0), 6002);
        Check.due("run: PC went round", x.told(0), 6002 % 1024);
        Check.due("run: ended()", x.ended(), FlagCore.DONE);
        x = busy();
        long[] was = Check.state(x);
        for (int steps : new int[] {0, -1, 3001, 3002, -3000, 65536, Integer.MIN_VALUE, Integer.MAX_VALUE}) {
            Check.refused("run(" + steps + ")", x, was, x.run(steps));
        }
    }

    // Promise 11: "or up to one that is ILLEGAL or BEYOND (not counted)".
    private static void runUpToOneThatFails() {
        for (int how : new int[] {FlagCore.ILLEGAL, FlagCore.BEYOND}) {
            int word = how == FlagCore.ILLEGAL ? ILLEGAL_WORD : 0x900F;
            for (int ahead : new int[] {0, 1, 5, 1023}) {
                FlagCore x = Check.at(1024 - ahead & 1023, NOP);
                x.code(0, word);
                Check.setPair(x, 93, 1023);
                String call = ahead + " steps ahead of one that ends as " + how;
                if (ahead > 0) {
                    Check.due("run up to " + call, x.run(ahead), ahead);
                    Check.due("ended(), " + call, x.ended(), FlagCore.DONE);
                    x.go(1024 - ahead);
                }
                Check.due("run, " + call, x.run(3000), ahead);
                Check.due("run: ended(), " + call, x.ended(), how);
                Check.due("run: count, " + call, x.count(how), 1);
                Check.due("run: PC, " + call, x.told(0), 0);
                Check.due("run from it, " + call, x.run(1), 0);
                Check.due("run from it: count, " + call, x.count(how), 2);
                Check.due("count(0), " + call, x.count(0), 2 * ahead);
            }
        }
    }

    // Promise 11: "how many were DONE or ENTERED".
    private static void runCountsEntered() {
        FlagCore x = Check.at(500, NOP);
        x.code(2, 0x9478);
        x.code(50, ILLEGAL_WORD);
        x.put(95, 128);
        x.ask(1);
        x.ask(25);
        // ENTERED, I becomes 1, the step that is WAITED for, ENTERED, ILLEGAL
        Check.due("run(3000) with two vectors", x.run(3000), 4);
        Check.due("run: count(0)", x.count(0), 2);
        Check.due("run: count(1)", x.count(1), 2);
        Check.due("run: PC", x.told(0), 50);
        x.put(95, 128);
        x.ask(2);
        Check.due("run(1) that is ENTERED", x.run(1), 1);
        Check.due("run(1): ended()", x.ended(), FlagCore.ENTERED);
    }

    // Promise 12: "How the latest step ended (0 before one)."
    private static void endedTellsTheLatest() {
        FlagCore x = Check.at(9, ILLEGAL_WORD);
        Check.due("ended() before one", x.ended(), 0);
        Check.due("run(0)", x.run(0), FlagCore.BAD);
        Check.due("ended() behind what was refused", x.ended(), 0);
        x.step();
        Check.due("ended() behind ILLEGAL", x.ended(), 2);
        x.run(3001);
        x.go(700);
        x.put(0, 1);
        x.ask(4);
        Check.due("ended() behind calls that are no steps", x.ended(), 2);
        x.put(95, 128);
        x.step();
        Check.due("ended() behind ENTERED", x.ended(), 1);
        Check.setPair(x, 93, 0);
        x.code(8, 0xD000);
        x.step();
        Check.due("ended() behind BEYOND", x.ended(), 3);
        x.code(8, NOP);
        x.step();
        Check.due("ended() behind DONE", x.ended(), 0);
    }

    // Promise 13: "0 whether it is ILLEGAL, 1 whether it has a next word. BAD."
    private static void readsAtItsEdges() {
        FlagCore x = busy();
        long[] was = Check.state(x);
        int[][] rows = {{0, 0, 0}, {1, 1, 0}, {255, 1, 0}, {256, 0, 0}, {65535, 1, 0}, {65535 - 8, 0, 0},
            {0x9000, 0, 1}, {0x9200, 0, 1}, {0x93F0, 0, 1}, {0x9400, 0, 0}, {0x940B, 1, 0}, {0x940C, 0, 1}, {0x940D, 0, 1},
            {0x940E, 0, 1}, {0x95FF, 0, 1}, {0x8000, 0, 0}, {0x9600, 0, 0}, {0x960C, 0, 0}};
        for (int[] row : rows) {
            Check.due("reads(" + row[0] + ", 0)", x.reads(row[0], 0), row[1]);
            Check.due("reads(" + row[0] + ", 1)", x.reads(row[0], 1), row[2]);
        }
        Check.unchanged("reads", x, was);
        for (int w : new int[] {-1, 65536, -65536, Integer.MIN_VALUE, Integer.MAX_VALUE}) {
            Check.due("reads(" + w + ", 0)", x.reads(w, 0), FlagCore.BAD);
            Check.refused("reads(" + w + ", 1)", x, was, x.reads(w, 1));
        }
        for (int what : new int[] {-1, 2, 3, 256, Integer.MIN_VALUE, Integer.MAX_VALUE}) {
            Check.refused("reads(0, " + what + ")", x, was, x.reads(0, what));
        }
        Check.refused("reads(-1, 2)", x, was, x.reads(-1, 2));
    }

    // Promise 14: "for all bytes of DATA, then PC: h becomes 31 h and it (32 bits)".
    private static void digestGoesRound() {
        int[][] puts = {{0, 255}, {0, 1}, {1, 255}, {31, 128}, {95, 127}, {512, 255}, {1022, 255}, {1023, 255}, {1023, 1}};
        for (int[] put : puts) {
            for (int pc : new int[] {0, 1, 1023}) {
                FlagCore x = new FlagCore();
                x.put(put[0], put[1]);
                x.go(pc);
                Check.due("digest() with " + put[1] + " at " + put[0] + ", PC " + pc, x.digest(), digest(put[0], put[1], pc));
            }
        }
        FlagCore x = new FlagCore();
        for (int place = 0; place < 500; place++) {
            x.put(place, 255);
        }
        long h = 7;
        for (int place = 0; place < 1024; place++) {
            h = (31 * h + (place < 500 ? 255 : 0)) % 4294967296L;
        }
        Check.due("digest() of many", x.digest(), (int) (31 * h % 4294967296L));
    }

    private static int digest(int at, int v, int pc) {
        long h = 7;
        for (int place = 0; place < 1024; place++) {
            h = (31 * h + (place == at ? v : 0)) % 4294967296L;
        }
        return (int) ((31 * h + pc) % 4294967296L);
    }

    // Promise 15: "Steps of each sort ever: 0 DONE .. 6 CALLS (ENTERED not). BAD."
    private static void countAtItsEdges() {
        FlagCore x = busy();
        long[] was = Check.state(x);
        for (int what : new int[] {-1, 7, 8, -7, 256, Integer.MIN_VALUE, Integer.MAX_VALUE}) {
            Check.refused("count(" + what + ")", x, was, x.count(what));
        }
        counted(Check.at(9, NOP), "nothing", 0);
        counted(Check.at(9, ILLEGAL_WORD), "no word", 2);
        counted(Check.at(9, 0x9000, 1024), "beyond", 3);
        counted(Check.at(9, 0x1000, NOP), "a SKIP over one", 0, 4);
        counted(Check.at(9, 0x1000, 0x9000), "a SKIP over two", 0, 5);
        counted(Check.at(9, 0x1301), "no SKIP", 0);
        counted(Check.at(9, 0xD000), "a CALL near", 0, 6);
        counted(Check.at(9, 0x9509), "a CALL to Z", 0, 6);
        counted(Check.at(9, 0x940E, 5), "a CALL far", 0, 6);
        x = Check.at(9, 0xD000);
        Check.setPair(x, 93, 0);
        counted(x, "a CALL beyond", 3);
        x = Check.at(9, NOP);
        x.put(95, 128);
        x.ask(7);
        counted(x, "a vector", 1);
    }

    private static void counted(FlagCore x, String call, int... due) {
        // R16 and R17 unlike, so that 0x1301 does not skip
        x.put(16, 1);
        x.step();
        for (int what = 0; what <= 6; what++) {
            int want = 0;
            for (int each : due) {
                want += each == what ? 1 : 0;
            }
            Check.due("count(" + what + ") behind " + call, x.count(what), want);
        }
    }

    // "An object is used for at most 512 calls": the last of them is answered as the first.
    private static void theLastCall() {
        FlagCore x = new FlagCore();
        for (int call = 1; call < 512; call++) {
            Check.due("call " + call, x.run(3000), 3000);
        }
        Check.due("call 512", x.count(0), 511 * 3000);
    }

    public static void main(String[] args) {
        aNewObjectIsAllZero();
        codeAtItsEdges();
        loadAtItsEdges();
        wordAtItsEdges();
        putAtItsEdges();
        dataAtItsEdges();
        toldAtItsEdges();
        toldOfVectors();
        goAtItsEdges();
        askAtItsEdges();
        askAgainBehindEntered();
        stepEndsInFourWays();
        runAtItsEdges();
        runUpToOneThatFails();
        runCountsEntered();
        endedTellsTheLatest();
        readsAtItsEdges();
        digestGoesRound();
        countAtItsEdges();
        theLastCall();
        Check.finish("CallEdgesTest");
    }
}
