/** A core of eight bits after the AVR; ../shared/DOC.md says what each call answers. */
public final class FlagCore {
    public static final int BAD = -1, NONE = -9;
    public static final int DONE = 0, ENTERED = 1, ILLEGAL = 2, BEYOND = 3;

    /** The last place of CODE and of DATA; a place masked by it is always one of theirs. */
    private static final int LAST = 1023;
    private static final int LAST_WORD = 65535;
    private static final int LAST_BYTE = 255;
    private static final int LAST_VECTOR = 25;
    private static final int MOST_STEPS = 3000;

    private static final int SKIPS_OF_ONE = 4, SKIPS_OF_TWO = 5, CALLS = 6, TALLIES = 7;

    private static final int LETS_VECTORS_IN = 0x9478;
    private static final int BACK_FROM_VECTOR = 0x9518;
    private static final int CODE_BYTE_TO_R0 = 0x95C8;

    private final int[] cells;
    private final Bytes bytes;
    private final Sums sums;
    private final int[] tallies;
    private int pc;
    private int asked;
    private int latest;
    private boolean waiting;

    public FlagCore() {
        cells = new int[LAST + 1];
        bytes = new Bytes();
        sums = new Sums(bytes);
        tallies = new int[TALLIES];
        pc = 0;
        asked = 0;
        latest = DONE;
        waiting = false;
    }

    public int code(int address, int w) {
        if (!within(address, LAST) || !within(w, LAST_WORD)) {
            return BAD;
        }
        int was = cellAt(address);
        cells[address & LAST] = w;
        return was;
    }

    public int load(int address, long words) {
        if (!within(address, LAST)) {
            return BAD;
        }
        for (int i = 0; i < 4; i++) {
            cells[(address + i) & LAST] = (int) (words >> (48 - 16 * i)) & LAST_WORD;
        }
        return 1;
    }

    public int word(int address) {
        return within(address, LAST) ? cellAt(address) : BAD;
    }

    public int put(int address, int v) {
        if (!within(address, LAST) || !within(v, LAST_BYTE)) {
            return BAD;
        }
        int was = bytes.get(address);
        bytes.set(address, v);
        return was;
    }

    public int data(int address) {
        return within(address, LAST) ? bytes.get(address) : BAD;
    }

    public int told(int what) {
        switch (what) {
            case 0:
                return pc;
            case 1:
                return bytes.pair(Bytes.SP);
            case 2:
                return bytes.get(Bytes.FLAGS);
            case 3:
                return bytes.pair(Bytes.X);
            case 4:
                return bytes.pair(Bytes.Y);
            case 5:
                return bytes.pair(Bytes.Z);
            case 6:
                return waiting ? 1 : 0;
            case 7:
                return asked;
            default:
                return BAD;
        }
    }

    public int go(int pc) {
        if (!within(pc, LAST)) {
            return BAD;
        }
        int was = this.pc;
        this.pc = pc;
        return was;
    }

    public int ask(int vector) {
        if (vector < 1 || vector > LAST_VECTOR) {
            return BAD;
        }
        int bit = 1 << vector;
        if ((asked & bit) != 0) {
            return 0;
        }
        asked |= bit;
        return 1;
    }

    public int step() {
        return advance();
    }

    public int run(int steps) {
        if (steps < 1 || steps > MOST_STEPS) {
            return BAD;
        }
        for (int i = 0; i < steps; i++) {
            int how = advance();
            if (how != DONE && how != ENTERED) {
                return i;
            }
        }
        return steps;
    }

    public int ended() {
        return latest;
    }

    public int reads(int w, int what) {
        if (!within(w, LAST_WORD)) {
            return BAD;
        }
        switch (what) {
            case 0:
                return Words.groupOf(w) == Words.ILL ? 1 : 0;
            case 1:
                return Words.hasNext(w) ? 1 : 0;
            default:
                return BAD;
        }
    }

    public int digest() {
        int h = 7;
        for (int i = 0; i <= LAST; i++) {
            h = 31 * h + bytes.get(i);
        }
        return 31 * h + pc;
    }

    public int count(int what) {
        return what >= 0 && what < TALLIES ? tallies[what] : BAD;
    }

    private static boolean within(int number, int last) {
        return number >= 0 && number <= last;
    }

    private int cellAt(int place) {
        return cells[place & LAST];
    }

    /** One step; what it did is told, kept as the latest and counted. */
    private int advance() {
        if (asked != 0 && !waiting && bytes.flag(Flags.I) == 1) {
            latest = enterLeast();
        } else {
            int w = cellAt(pc);
            latest = perform(w);
            if (latest == DONE) {
                waiting = w == LETS_VECTORS_IN || w == BACK_FROM_VECTOR;
            }
        }
        tallies[latest & 3]++;
        return latest;
    }

    private int enterLeast() {
        if (!bytes.stacks(pc)) {
            return BEYOND;
        }
        pc = 2 * Integer.numberOfTrailingZeros(asked) & LAST;
        asked &= asked - 1;
        // behind the stack's bytes: one of them may have gone to FLAGS
        bytes.setFlag(Flags.I, 0);
        return ENTERED;
    }

    private int perform(int w) {
        switch (Words.groupOf(w)) {
            case Words.NOTHING:
                return onward(1);
            case Words.MOVE_PAIR:
                return movePair(w);
            case Words.PRODUCT:
                return multiply(w);
            case Words.TWO:
                return combine(w);
            case Words.WITH_NUMBER:
                return combineWithNumber(w);
            case Words.ONE:
                return change(w);
            case Words.FLAG:
                return setFlag(w);
            case Words.PAIR_AND_NUMBER:
                return changePair(w);
            case Words.AT_NEXT:
                return moveAtNext(w);
            case Words.POINTED:
                return movePointed(w);
            case Words.STACK:
                return moveStacked(w);
            case Words.BESIDE:
                return moveBeside(w);
            case Words.FROM_CODE:
                return moveFromCode(w);
            case Words.PORT:
                return movePort(w);
            case Words.PORT_BIT:
                return setPortBit(w);
            case Words.SKIP_PORT:
                return skipByPort(w);
            case Words.SKIP_BIT:
                return skipByBit(w);
            case Words.BIT_AND_T:
                return moveBit(w);
            case Words.NEAR:
                return jumpNear(w);
            case Words.BRANCH:
                return branch(w);
            case Words.FAR:
                return jumpFar(w);
            case Words.TO_Z:
                return jumpToZ(w);
            case Words.BACK:
                return comeBack(w);
            default:
                return ILLEGAL;
        }
    }

    private int onward(int words) {
        pc = (pc + words) & LAST;
        return DONE;
    }

    private int jumpTo(int target) {
        pc = target & LAST;
        return DONE;
    }

    private int callTo(int target, int behind) {
        if (!bytes.stacks(behind & LAST)) {
            return BEYOND;
        }
        tallies[CALLS]++;
        pc = target & LAST;
        return DONE;
    }

    private int skip(boolean over) {
        if (!over) {
            return onward(1);
        }
        if (Words.hasNext(cellAt(pc + 1))) {
            tallies[SKIPS_OF_TWO]++;
            return onward(3);
        }
        tallies[SKIPS_OF_ONE]++;
        return onward(2);
    }

    private int movePair(int w) {
        bytes.setPair(2 * (w >> 4 & 15), bytes.pair(2 * (w & 15)));
        return onward(1);
    }

    private int multiply(int w) {
        if (w >> 12 == 9) {
            sums.product(bytes.get(Words.d(w)) * bytes.get(Words.r(w)));
        } else if (w >> 8 == 2) {
            sums.product(bytes.signed(16 + (w >> 4 & 15)) * bytes.signed(16 + (w & 15)));
        } else {
            multiplyFew(w, 16 + (w >> 4 & 7), 16 + (w & 7));
        }
        return onward(1);
    }

    private void multiplyFew(int w, int d, int r) {
        switch (w & 0x88) {
            case 0x00:
                sums.product(bytes.signed(d) * bytes.get(r));
                break;
            case 0x08:
                sums.fraction(bytes.get(d) * bytes.get(r));
                break;
            case 0x80:
                sums.fraction(bytes.signed(d) * bytes.signed(r));
                break;
            default:
                sums.fraction(bytes.signed(d) * bytes.get(r));
                break;
        }
    }

    private int combine(int w) {
        int d = Words.d(w);
        int a = bytes.get(d);
        int b = bytes.get(Words.r(w));
        int carry = bytes.flag(Flags.C);
        switch (w >> 10) {
            case 1:
                sums.differenceOn(a, b, carry);
                break;
            case 2:
                bytes.set(d, sums.differenceOn(a, b, carry));
                break;
            case 3:
                bytes.set(d, sums.sum(a, b, 0));
                break;
            case 4:
                return skip(a == b);
            case 5:
                sums.difference(a, b);
                break;
            case 6:
                bytes.set(d, sums.difference(a, b));
                break;
            case 7:
                bytes.set(d, sums.sum(a, b, carry));
                break;
            case 8:
                bytes.set(d, sums.logic(a & b));
                break;
            case 9:
                bytes.set(d, sums.logic(a ^ b));
                break;
            case 10:
                bytes.set(d, sums.logic(a | b));
                break;
            default:
                bytes.set(d, b);
                break;
        }
        return onward(1);
    }

    private int combineWithNumber(int w) {
        int d = 16 + (w >> 4 & 15);
        int a = bytes.get(d);
        int k = w >> 4 & 0xF0 | w & 15;
        switch (w >> 12) {
            case 3:
                sums.difference(a, k);
                break;
            case 4:
                bytes.set(d, sums.differenceOn(a, k, bytes.flag(Flags.C)));
                break;
            case 5:
                bytes.set(d, sums.difference(a, k));
                break;
            case 6:
                bytes.set(d, sums.logic(a | k));
                break;
            case 7:
                bytes.set(d, sums.logic(a & k));
                break;
            default:
                bytes.set(d, k);
                break;
        }
        return onward(1);
    }

    private int change(int w) {
        int d = Words.d(w);
        int a = bytes.get(d);
        switch (w & 15) {
            case 0:
                bytes.set(d, sums.inverse(a));
                break;
            case 1:
                bytes.set(d, sums.difference(0, a));
                break;
            case 2:
                bytes.set(d, a << 4 | a >> 4);
                break;
            case 3:
                bytes.set(d, sums.more(a));
                break;
            case 5:
                bytes.set(d, sums.right(a, a >> 7));
                break;
            case 6:
                bytes.set(d, sums.right(a, 0));
                break;
            case 7:
                bytes.set(d, sums.right(a, bytes.flag(Flags.C)));
                break;
            default:
                bytes.set(d, sums.less(a));
                break;
        }
        return onward(1);
    }

    private int setFlag(int w) {
        bytes.setFlag(w >> 4 & 7, (w & 0x80) == 0 ? 1 : 0);
        return onward(1);
    }

    private int changePair(int w) {
        int pair = 24 + (w >> 3 & 6);
        int a = bytes.pair(pair);
        int k = w >> 2 & 0x30 | w & 15;
        bytes.setPair(pair, (w & 0x100) == 0 ? sums.pairMore(a, k) : sums.pairLess(a, k));
        return onward(1);
    }

    /** Memory to d or from d, as the word tells. */
    private void transfer(int w, int place) {
        int d = Words.d(w);
        if ((w & 0x200) == 0) {
            bytes.set(d, bytes.get(place));
        } else {
            bytes.set(place, bytes.get(d));
        }
    }

    private int moveAtNext(int w) {
        int place = cellAt(pc + 1);
        if (place > LAST) {
            return BEYOND;
        }
        transfer(w, place);
        return onward(2);
    }

    private int movePointed(int w) {
        int pointer = Words.pointer(w);
        int was = bytes.pair(pointer);
        boolean lessFirst = (w & 3) == 2;
        boolean thenMore = (w & 3) == 1;
        int place = lessFirst ? (was - 1) & LAST_WORD : was;
        if (place > LAST) {
            return BEYOND;
        }
        // the place may be the pointer itself, so it matters which comes first
        if (lessFirst) {
            bytes.setPair(pointer, place);
        }
        transfer(w, place);
        if (thenMore) {
            bytes.setPair(pointer, was + 1);
        }
        return onward(1);
    }

    private int moveStacked(int w) {
        boolean pulls = (w & 0x200) == 0;
        int place = (bytes.pair(Bytes.SP) + (pulls ? 1 : 0)) & LAST_WORD;
        if (place > LAST) {
            return BEYOND;
        }
        int d = Words.d(w);
        if (pulls) {
            bytes.set(d, bytes.pull());
        } else {
            bytes.push(bytes.get(d));
        }
        return onward(1);
    }

    private int moveBeside(int w) {
        int pointer = (w & 8) == 0 ? Bytes.Z : Bytes.Y;
        int q = w >> 8 & 0x20 | w >> 7 & 0x18 | w & 7;
        int place = (bytes.pair(pointer) + q) & LAST_WORD;
        if (place > LAST) {
            return BEYOND;
        }
        transfer(w, place);
        return onward(1);
    }

    private int moveFromCode(int w) {
        int z = bytes.pair(Bytes.Z);
        int cell = cellAt(z >> 1);
        bytes.set(w == CODE_BYTE_TO_R0 ? 0 : Words.d(w), (z & 1) == 0 ? cell : cell >> 8);
        if ((w & 1) == 1) {
            bytes.setPair(Bytes.Z, z + 1);
        }
        return onward(1);
    }

    private int movePort(int w) {
        int d = Words.d(w);
        int place = Bytes.PORTS + (w >> 5 & 0x30 | w & 15);
        if ((w & 0x800) == 0) {
            bytes.set(d, bytes.get(place));
        } else {
            bytes.set(place, bytes.get(d));
        }
        return onward(1);
    }

    private int setPortBit(int w) {
        bytes.setBit(Bytes.PORTS + (w >> 3 & 31), w & 7, w >> 9 & 1);
        return onward(1);
    }

    private int skipByPort(int w) {
        return skip(bytes.bit(Bytes.PORTS + (w >> 3 & 31), w & 7) == (w >> 9 & 1));
    }

    private int skipByBit(int w) {
        return skip(bytes.bit(Words.d(w), w & 7) == (w >> 9 & 1));
    }

    private int moveBit(int w) {
        int d = Words.d(w);
        if ((w & 0x200) == 0) {
            bytes.setBit(d, w & 7, bytes.flag(Flags.T));
        } else {
            bytes.setFlag(Flags.T, bytes.bit(d, w & 7));
        }
        return onward(1);
    }

    private int jumpNear(int w) {
        int k = w << 20 >> 20;
        int behind = pc + 1;
        return (w & 0x1000) == 0 ? jumpTo(behind + k) : callTo(behind + k, behind);
    }

    private int branch(int w) {
        int k = w << 22 >> 25;
        int due = (w & 0x400) == 0 ? 1 : 0;
        return onward(bytes.flag(w & 7) == due ? 1 + k : 1);
    }

    private int jumpFar(int w) {
        int target = cellAt(pc + 1);
        return (w & 2) == 0 ? jumpTo(target) : callTo(target, pc + 2);
    }

    private int jumpToZ(int w) {
        int target = bytes.pair(Bytes.Z);
        return (w & 0x100) == 0 ? jumpTo(target) : callTo(target, pc + 1);
    }

    private int comeBack(int w) {
        int top = bytes.pair(Bytes.SP);
        if (((top + 1) & LAST_WORD) > LAST || ((top + 2) & LAST_WORD) > LAST) {
            return BEYOND;
        }
        int high = bytes.pull();
        int low = bytes.pull();
        if (w == BACK_FROM_VECTOR) {
            bytes.setFlag(Flags.I, 1);
        }
        return jumpTo(high << 8 | low);
    }

    /** The numbers of the flags, which are their bits in FLAGS. */
    private static final class Flags {
        static final int C = 0, Z = 1, N = 2, V = 3, S = 4, H = 5, T = 6, I = 7;
    }

    /** DATA, in which registers, ports, SP and FLAGS lie. */
    private static final class Bytes {
        static final int X = 26, Y = 28, Z = 30, PORTS = 32, SP = 93, FLAGS = 95;

        private final int[] row;

        Bytes() {
            row = new int[LAST + 1];
        }

        int get(int place) {
            return row[place & LAST];
        }

        void set(int place, int v) {
            row[place & LAST] = v & LAST_BYTE;
        }

        int signed(int place) {
            return (byte) row[place & LAST];
        }

        int pair(int low) {
            return row[low & LAST] | row[(low + 1) & LAST] << 8;
        }

        void setPair(int low, int v) {
            row[low & LAST] = v & LAST_BYTE;
            row[(low + 1) & LAST] = v >> 8 & LAST_BYTE;
        }

        int bit(int place, int b) {
            return row[place & LAST] >> b & 1;
        }

        void setBit(int place, int b, int v) {
            set(place, get(place) & ~(1 << b) | v << b);
        }

        int flag(int s) {
            return row[FLAGS] >> s & 1;
        }

        void setFlag(int s, int v) {
            setBit(FLAGS, s, v);
        }

        void setFlags(int which, int values) {
            row[FLAGS] = row[FLAGS] & ~which | values & which;
        }

        /** SP is read ahead and written behind: the byte may go to SP's own places. */
        void push(int v) {
            int place = pair(SP);
            set(place, v);
            setPair(SP, place - 1);
        }

        /** Whether both places that a PC takes are there; if so, the stack has taken it. */
        boolean stacks(int behind) {
            int place = pair(SP);
            if (place < 1 || place > LAST) {
                return false;
            }
            // SP at once for both bytes: what it becomes lies over what they left in its places
            set(place, behind);
            set(place - 1, behind >> 8);
            setPair(SP, place - 2);
            return true;
        }

        /** SP is written ahead: the byte may come from SP's own places. */
        int pull() {
            int place = pair(SP) + 1;
            setPair(SP, place);
            return get(place);
        }
    }

    /** Results of eight and sixteen bits, with what they leave in FLAGS. */
    private static final class Sums {
        private static final int C = 1 << Flags.C, Z = 1 << Flags.Z, V = 1 << Flags.V, H = 1 << Flags.H;
        private static final int SIGNS = Z | 1 << Flags.N | V | 1 << Flags.S;

        private final Bytes bytes;

        Sums(Bytes bytes) {
            this.bytes = bytes;
        }

        int sum(int a, int b, int carry) {
            int whole = a + b + carry;
            int x = whole & LAST_BYTE;
            int half = (a & 15) + (b & 15) + carry;
            boolean over = ((a ^ x) & (b ^ x) & 0x80) != 0;
            bytes.setFlags(SIGNS | C | H, signs(x, over) | (whole > LAST_BYTE ? C : 0) | (half > 15 ? H : 0));
            return x;
        }

        int difference(int a, int b) {
            return subtract(a, b, 0, SIGNS);
        }

        /** The difference that goes on with the C and the Z of the one ahead. */
        int differenceOn(int a, int b, int borrow) {
            int which = bytes.flag(Flags.Z) == 1 ? SIGNS : SIGNS & ~Z;
            return subtract(a, b, borrow, which);
        }

        private int subtract(int a, int b, int borrow, int which) {
            int whole = a - b - borrow;
            int x = whole & LAST_BYTE;
            int half = (a & 15) - (b & 15) - borrow;
            boolean over = ((a ^ b) & (a ^ x) & 0x80) != 0;
            bytes.setFlags(which | C | H, signs(x, over) | (whole < 0 ? C : 0) | (half < 0 ? H : 0));
            return x;
        }

        int logic(int x) {
            bytes.setFlags(SIGNS, signs(x, false));
            return x;
        }

        int inverse(int a) {
            int x = LAST_BYTE - a;
            bytes.setFlags(SIGNS | C, signs(x, false) | C);
            return x;
        }

        int more(int a) {
            int x = (a + 1) & LAST_BYTE;
            bytes.setFlags(SIGNS, signs(x, x == 128));
            return x;
        }

        int less(int a) {
            int x = (a - 1) & LAST_BYTE;
            bytes.setFlags(SIGNS, signs(x, x == 127));
            return x;
        }

        int right(int a, int comes) {
            int x = a >> 1 | comes << 7;
            int goes = a & 1;
            bytes.setFlags(SIGNS | C, signs(x, comes != goes) | (goes == 1 ? C : 0));
            return x;
        }

        int pairMore(int a, int k) {
            int x = (a + k) & LAST_WORD;
            pairFlags(x, ~a & x, a & ~x);
            return x;
        }

        int pairLess(int a, int k) {
            int x = (a - k) & LAST_WORD;
            pairFlags(x, a & ~x, ~a & x);
            return x;
        }

        private void pairFlags(int x, int overs, int carries) {
            int flags = signs(x >> 8, (overs & 0x8000) != 0) & ~Z;
            bytes.setFlags(SIGNS | C, flags | (x == 0 ? Z : 0) | ((carries & 0x8000) != 0 ? C : 0));
        }

        void product(int product) {
            keepProduct(product, product);
        }

        void fraction(int product) {
            keepProduct(product, product << 1);
        }

        private void keepProduct(int product, int kept) {
            bytes.setPair(0, kept);
            bytes.setFlags(C | Z, ((product & 0x8000) != 0 ? C : 0) | ((kept & LAST_WORD) == 0 ? Z : 0));
        }

        private static int signs(int x, boolean over) {
            int n = x >> 7 & 1;
            int v = over ? 1 : 0;
            return (x == 0 ? Z : 0) | n << Flags.N | v << Flags.V | (n ^ v) << Flags.S;
        }
    }

    /** What a word is: the group it belongs to, and the numbers in it that groups share. */
    private static final class Words {
        static final int ILL = 0, NOTHING = 1, MOVE_PAIR = 2, PRODUCT = 3, TWO = 4, WITH_NUMBER = 5;
        static final int ONE = 6, FLAG = 7, PAIR_AND_NUMBER = 8;
        static final int AT_NEXT = 9, POINTED = 10, STACK = 11, BESIDE = 12, FROM_CODE = 13;
        static final int PORT = 14, PORT_BIT = 15, SKIP_PORT = 16, SKIP_BIT = 17, BIT_AND_T = 18;
        static final int NEAR = 19, BRANCH = 20, FAR = 21, TO_Z = 22, BACK = 23;

        static int d(int w) {
            return w >> 4 & 31;
        }

        static int r(int w) {
            return w >> 5 & 16 | w & 15;
        }

        /** The pointer of a POINTED word. */
        static int pointer(int w) {
            switch (w >> 2 & 3) {
                case 0:
                    return Bytes.Z;
                case 2:
                    return Bytes.Y;
                default:
                    return Bytes.X;
            }
        }

        /** Whether the word is 1001 00.. .... 0000 or 1001 010. .... 11.. (those of AT_NEXT and FAR). */
        static boolean hasNext(int w) {
            return (w & 0xFC0F) == 0x9000 || (w & 0xFE0C) == 0x940C;
        }

        static int groupOf(int w) {
            switch (w >> 12) {
                case 0:
                    return lowGroupOf(w);
                case 1:
                case 2:
                    return TWO;
                case 8:
                case 10:
                    return BESIDE;
                case 9:
                    return mixedGroupOf(w);
                case 11:
                    return PORT;
                case 12:
                case 13:
                    return NEAR;
                case 15:
                    return highGroupOf(w);
                default:
                    return WITH_NUMBER;
            }
        }

        private static int lowGroupOf(int w) {
            if (w == 0) {
                return NOTHING;
            }
            switch (w >> 8) {
                case 0:
                    return ILL;
                case 1:
                    return MOVE_PAIR;
                case 2:
                case 3:
                    return PRODUCT;
                default:
                    return TWO;
            }
        }

        private static int mixedGroupOf(int w) {
            switch (w >> 8 & 15) {
                case 0:
                case 1:
                case 2:
                case 3:
                    return memoryGroupOf(w);
                case 4:
                case 5:
                    return singleGroupOf(w);
                case 6:
                case 7:
                    return PAIR_AND_NUMBER;
                case 8:
                case 10:
                    return PORT_BIT;
                case 9:
                case 11:
                    return SKIP_PORT;
                default:
                    return PRODUCT;
            }
        }

        private static int memoryGroupOf(int w) {
            switch (w & 15) {
                case 0:
                    return AT_NEXT;
                case 1:
                case 2:
                case 9:
                case 10:
                case 13:
                case 14:
                    return isOneOf(d(w), pointer(w)) ? ILL : POINTED;
                case 4:
                    return (w & 0x200) == 0 ? FROM_CODE : ILL;
                case 5:
                    return (w & 0x200) == 0 && !isOneOf(d(w), Bytes.Z) ? FROM_CODE : ILL;
                case 12:
                    return POINTED;
                case 15:
                    return STACK;
                default:
                    return ILL;
            }
        }

        private static boolean isOneOf(int d, int pointer) {
            return (d & 30) == pointer;
        }

        private static int singleGroupOf(int w) {
            switch (w & 15) {
                case 4:
                case 11:
                    return ILL;
                case 8:
                    return flagGroupOf(w);
                case 9:
                    return (w & 0xF0) == 0 ? TO_Z : ILL;
                case 12:
                case 13:
                case 14:
                case 15:
                    return FAR;
                default:
                    return ONE;
            }
        }

        private static int flagGroupOf(int w) {
            if ((w & 0x100) == 0) {
                return FLAG;
            }
            switch (w & 0xF0) {
                case 0x00:
                case 0x10:
                    return BACK;
                case 0xC0:
                    return FROM_CODE;
                default:
                    return ILL;
            }
        }

        private static int highGroupOf(int w) {
            if ((w & 0x800) == 0) {
                return BRANCH;
            }
            if ((w & 8) != 0) {
                return ILL;
            }
            return (w & 0x400) == 0 ? BIT_AND_T : SKIP_BIT;
        }
    }
}
