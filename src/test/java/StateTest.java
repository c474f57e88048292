/** Promises 1 to 9, 12 and 14: what is kept, told and refused while no step is done. */
public final class StateTest {
    private static final int[] WRONG_PLACES = {-1, -1024, 1024, 1025, 65536, Integer.MAX_VALUE, Integer.MIN_VALUE};

    private static void aNewObjectIsAllZero() {
        FlagCore x = new FlagCore();
        for (int i = 0; i < 200; i++) {
            Check.due("new: word", x.word(i * 5), 0);
            Check.due("new: data", x.data(i * 5 + 3), 0);
        }
        for (int what = 0; what <= 7; what++) {
            Check.due("new: told(" + what + ")", x.told(what), 0);
        }
        for (int what = 0; what <= 6; what++) {
            Check.due("new: count(" + what + ")", x.count(what), 0);
        }
        Check.due("new: ended()", x.ended(), 0);
        int h = 7;
        for (int i = 0; i < 1025; i++) {
            h *= 31;
        }
        Check.due("new: digest()", x.digest(), h);
        Check.due("new: word(1023)", x.word(1023), 0);
        Check.due("new: data(95)", x.data(95), 0);
    }

    private static void objectsAreApart() {
        FlagCore x = new FlagCore();
        FlagCore y = new FlagCore();
        x.code(5, 77);
        x.put(5, 78);
        x.ask(4);
        x.go(9);
        Check.due("apart: word(5)", y.word(5), 0);
        Check.due("apart: data(5)", y.data(5), 0);
        Check.due("apart: told(7)", y.told(7), 0);
        Check.due("apart: told(0)", y.told(0), 0);
    }

    private static void codeTakesWords() {
        FlagCore x = new FlagCore();
        Check.due("code(0, 65535)", x.code(0, 65535), 0);
        Check.due("code(0, 1)", x.code(0, 1), 65535);
        Check.due("code(1023, 32768)", x.code(1023, 32768), 0);
        Check.due("word(0)", x.word(0), 1);
        Check.due("word(1023)", x.word(1023), 32768);
        Check.due("word(1)", x.word(1), 0);
        Check.due("data(0)", x.data(0), 0);
        for (int place : WRONG_PLACES) {
            Check.due("code(" + place + ", 3)", x.code(place, 3), FlagCore.BAD);
            Check.due("word(" + place + ")", x.word(place), FlagCore.BAD);
        }
        for (int w : new int[] {-1, 65536, Integer.MAX_VALUE, Integer.MIN_VALUE}) {
            Check.due("code(0, " + w + ")", x.code(0, w), FlagCore.BAD);
        }
        Check.due("word(0) still", x.word(0), 1);
        Check.due("word(1023) still", x.word(1023), 32768);
    }

    private static void loadTakesFourWords() {
        FlagCore x = new FlagCore();
        Check.due("load(10, ..)", x.load(10, 0x89AB_FFFF_0001_8000L), 1);
        Check.due("word(10)", x.word(10), 0x89AB);
        Check.due("word(11)", x.word(11), 0xFFFF);
        Check.due("word(12)", x.word(12), 1);
        Check.due("word(13)", x.word(13), 0x8000);
        Check.due("word(9)", x.word(9), 0);
        Check.due("word(14)", x.word(14), 0);
        Check.due("load(1021, ..)", x.load(1021, 0x0001_0002_0003_0004L), 1);
        Check.due("word(1021)", x.word(1021), 1);
        Check.due("word(1023)", x.word(1023), 3);
        Check.due("word(0)", x.word(0), 4);
        Check.due("load(0, -1)", x.load(0, -1L), 1);
        Check.due("word(3)", x.word(3), 65535);
        for (int place : WRONG_PLACES) {
            Check.due("load(" + place + ", 0)", x.load(place, 0L), FlagCore.BAD);
        }
        Check.due("word(0) still", x.word(0), 65535);
        Check.due("word(1023) still", x.word(1023), 3);
    }

    private static void putTakesBytes() {
        FlagCore x = new FlagCore();
        Check.due("put(0, 255)", x.put(0, 255), 0);
        Check.due("put(0, 7)", x.put(0, 7), 255);
        Check.due("put(1023, 128)", x.put(1023, 128), 0);
        Check.due("data(0)", x.data(0), 7);
        Check.due("data(1023)", x.data(1023), 128);
        for (int place : WRONG_PLACES) {
            Check.due("put(" + place + ", 3)", x.put(place, 3), FlagCore.BAD);
            Check.due("data(" + place + ")", x.data(place), FlagCore.BAD);
        }
        for (int v : new int[] {-1, 256, Integer.MAX_VALUE, Integer.MIN_VALUE}) {
            Check.due("put(0, " + v + ")", x.put(0, v), FlagCore.BAD);
        }
        Check.due("data(0) still", x.data(0), 7);
        Check.due("word(0)", x.word(0), 0);
    }

    private static void theCoreIsTold() {
        FlagCore x = new FlagCore();
        int[] lows = {93, 26, 28, 30};
        for (int i = 0; i < 4; i++) {
            x.put(lows[i], 10 * i + 1);
            x.put(lows[i] + 1, 255 - i);
        }
        x.put(95, 0xA5);
        x.go(1000);
        x.ask(1);
        x.ask(25);
        Check.due("told(0)", x.told(0), 1000);
        Check.due("told(1)", x.told(1), 255 * 256 + 1);
        Check.due("told(2)", x.told(2), 0xA5);
        Check.due("told(3)", x.told(3), 254 * 256 + 11);
        Check.due("told(4)", x.told(4), 253 * 256 + 21);
        Check.due("told(5)", x.told(5), 252 * 256 + 31);
        Check.due("told(6)", x.told(6), 0);
        Check.due("told(7)", x.told(7), 2 + (1 << 25));
        for (int what : new int[] {-1, 8, 9, Integer.MAX_VALUE, Integer.MIN_VALUE}) {
            Check.due("told(" + what + ")", x.told(what), FlagCore.BAD);
        }
    }

    private static void goTakesPlaces() {
        FlagCore x = new FlagCore();
        Check.due("go(1023)", x.go(1023), 0);
        Check.due("go(0)", x.go(0), 1023);
        Check.due("go(512)", x.go(512), 0);
        for (int place : WRONG_PLACES) {
            Check.due("go(" + place + ")", x.go(place), FlagCore.BAD);
        }
        Check.due("told(0)", x.told(0), 512);
    }

    private static void askTakesVectors() {
        FlagCore x = new FlagCore();
        for (int v = 1; v <= 25; v++) {
            Check.due("ask(" + v + ")", x.ask(v), 1);
            Check.due("ask(" + v + ") again", x.ask(v), 0);
        }
        Check.due("told(7)", x.told(7), (1 << 26) - 2);
        for (int v : new int[] {0, -1, 26, 32, 33, 57, Integer.MAX_VALUE, Integer.MIN_VALUE}) {
            Check.due("ask(" + v + ")", x.ask(v), FlagCore.BAD);
        }
        Check.due("told(7) still", x.told(7), (1 << 26) - 2);
    }

    private static void digestTakesDataAndPc() {
        FlagCore x = new FlagCore();
        int empty = x.digest();
        x.code(3, 9);
        x.ask(3);
        Check.due("digest: CODE and VECTORS are not in it", x.digest(), empty);
        x.go(5);
        Check.due("digest: PC", x.digest(), empty + 5);
        x.put(1023, 200);
        Check.due("digest: the last byte", x.digest(), empty + 5 + 31 * 200);
        x.put(1022, 3);
        Check.due("digest: the one ahead", x.digest(), empty + 5 + 31 * 200 + 31 * 31 * 3);
        int power = 1;
        for (int i = 0; i < 1024; i++) {
            power *= 31;
        }
        x.put(0, 250);
        Check.due("digest: the first byte", x.digest(), empty + 5 + 31 * 200 + 31 * 31 * 3 + power * 250);
    }

    private static void endedAndCountRefuse() {
        FlagCore x = Check.core(1);
        Check.due("ended() ahead", x.ended(), 0);
        Check.due("step()", x.step(), FlagCore.ILLEGAL);
        Check.due("ended()", x.ended(), FlagCore.ILLEGAL);
        x.put(0, 300);
        x.go(-1);
        Check.due("ended() stays", x.ended(), FlagCore.ILLEGAL);
        for (int what : new int[] {-1, 7, 8, Integer.MAX_VALUE, Integer.MIN_VALUE}) {
            Check.due("count(" + what + ")", x.count(what), FlagCore.BAD);
        }
    }

    private static void theConstants() {
        Check.due("BAD", FlagCore.BAD, -1);
        Check.due("NONE", FlagCore.NONE, -9);
        Check.due("DONE", FlagCore.DONE, 0);
        Check.due("ENTERED", FlagCore.ENTERED, 1);
        Check.due("ILLEGAL", FlagCore.ILLEGAL, 2);
        Check.due("BEYOND", FlagCore.BEYOND, 3);
    }

    public static void main(String[] args) {
        aNewObjectIsAllZero();
        objectsAreApart();
        codeTakesWords();
        loadTakesFourWords();
        putTakesBytes();
        theCoreIsTold();
        goTakesPlaces();
        askTakesVectors();
        digestTakesDataAndPc();
        endedAndCountRefuse();
        theConstants();
        Check.finish("StateTest");
    }
}
