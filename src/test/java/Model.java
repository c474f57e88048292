/**
 * The core once more, written apart from the program: words are read from Patterns, flags come from
 * Boolean equations of bits or from wide sums, and a step that goes BEYOND is undone from a copy.
 */
final class Model {
    static final int DONE = 0, ENTERED = 1, ILLEGAL = 2, BEYOND = 3;
    private static final int C = 0, Z = 1, N = 2, V = 3, S = 4, H = 5, T = 6, I = 7;

    private static final class Beyond extends RuntimeException {
        private static final long serialVersionUID = 1L;

        Beyond() {
            super(null, null, false, false);
        }
    }

    final int[] code = new int[1024];
    int[] data = new int[1024];
    long[] counts = new long[7];
    int pc, asked, ended;
    boolean waited;

    int step() {
        int[] oldData = data.clone();
        long[] oldCounts = counts.clone();
        int oldPc = pc;
        int oldAsked = asked;
        try {
            ended = begin();
        } catch (Beyond b) {
            data = oldData;
            counts = oldCounts;
            pc = oldPc;
            asked = oldAsked;
            ended = BEYOND;
        }
        counts[ended]++;
        return ended;
    }

    private int begin() {
        if (flag(I) && asked != 0 && !waited) {
            int vector = 1;
            while ((asked >> vector & 1) == 0) {
                vector++;
            }
            asked -= 1 << vector;
            push(pc % 256);
            push(pc / 256);
            pc = 2 * vector;
            flag(I, false);
            return ENTERED;
        }
        int w = code[pc];
        String name = Patterns.name(w);
        if (name == null) {
            return ILLEGAL;
        }
        pc = (pc + 1) % 1024;
        if (!jump(name, w) && !memory(name, w) && !bits(name, w) && !one(name, w)) {
            many(name, w);
        }
        waited = name.equals("RETI") || name.equals("BSET") && num(w, 's') == I;
        return DONE;
    }

    private static int num(int w, char letter) {
        return Patterns.number(w, letter);
    }

    private boolean flag(int s) {
        return (data[95] & 1 << s) != 0;
    }

    private void flag(int s, boolean on) {
        data[95] = on ? data[95] | 1 << s : data[95] & (255 - (1 << s));
    }

    private int load(int place) {
        if (place > 1023) {
            throw new Beyond();
        }
        return data[place];
    }

    private void store(int place, int v) {
        if (place > 1023) {
            throw new Beyond();
        }
        data[place] = v;
    }

    int pair(int low) {
        return data[low] + 256 * data[low + 1];
    }

    private void pair(int low, int v) {
        int whole = Math.floorMod(v, 65536);
        data[low] = whole % 256;
        data[low + 1] = whole / 256;
    }

    private void push(int v) {
        int sp = pair(93);
        store(sp, v);
        pair(93, sp - 1);
    }

    private int pop() {
        pair(93, pair(93) + 1);
        return load(pair(93));
    }

    private int nextWord() {
        int w = code[pc];
        pc = (pc + 1) % 1024;
        return w;
    }

    private void go(int target) {
        pc = Math.floorMod(target, 1024);
    }

    private void call(int target) {
        push(pc % 256);
        push(pc / 256);
        go(target);
        counts[6]++;
    }

    private void skipIf(boolean over) {
        if (over) {
            if (Patterns.hasNext(nextWord())) {
                nextWord();
                counts[5]++;
            } else {
                counts[4]++;
            }
        }
    }

    private boolean jump(String name, int w) {
        int z = pair(30);
        switch (name) {
            case "NOP" -> { }
            case "RJMP" -> go(pc + Patterns.signedNumber(w, 'k'));
            case "RCALL" -> call(pc + Patterns.signedNumber(w, 'k'));
            case "IJMP" -> go(z);
            case "ICALL" -> call(z);
            case "JMP" -> go(nextWord());
            case "CALL" -> {
                int target = nextWord();
                call(target);
            }
            case "BRBS" -> {
                if (flag(num(w, 's'))) {
                    go(pc + Patterns.signedNumber(w, 'k'));
                }
            }
            case "BRBC" -> {
                if (!flag(num(w, 's'))) {
                    go(pc + Patterns.signedNumber(w, 'k'));
                }
            }
            case "RET", "RETI" -> {
                int high = pop();
                int low = pop();
                go(256 * high + low);
                if (name.equals("RETI")) {
                    flag(I, true);
                }
            }
            default -> {
                return false;
            }
        }
        return true;
    }

    private boolean memory(String name, int w) {
        if (name.equals("LDS") || name.equals("STS")) {
            move(name, num(w, 'd'), nextWord());
        } else if (name.startsWith("LD ") || name.startsWith("ST ")) {
            int low = name.indexOf('X') > 0 ? 26 : name.indexOf('Y') > 0 ? 28 : 30;
            if (name.indexOf('-') > 0) {
                pair(low, pair(low) - 1);
            }
            int place = pair(low);
            move(name, num(w, 'd'), place);
            if (name.endsWith("+")) {
                pair(low, place + 1);
            }
        } else if (name.equals("LDD") || name.equals("STD")) {
            move(name, num(w, 'd'), (pair(num(w, 'p') == 0 ? 30 : 28) + num(w, 'q')) % 65536);
        } else if (name.equals("PUSH")) {
            push(data[num(w, 'd')]);
        } else if (name.equals("POP")) {
            data[num(w, 'd')] = pop();
        } else if (name.startsWith("LPM")) {
            int z = pair(30);
            int cell = code[z / 2 % 1024];
            data[name.equals("LPM R0") ? 0 : num(w, 'd')] = z % 2 == 0 ? cell % 256 : cell / 256;
            if (name.equals("LPM Z+")) {
                pair(30, z + 1);
            }
        } else {
            return false;
        }
        return true;
    }

    private void move(String name, int d, int place) {
        if (name.startsWith("L")) {
            data[d] = load(place);
        } else {
            store(place, data[d]);
        }
    }

    private boolean bits(String name, int w) {
        switch (name) {
            case "IN" -> data[num(w, 'd')] = data[32 + num(w, 'A')];
            case "OUT" -> data[32 + num(w, 'A')] = data[num(w, 'd')];
            case "CBI" -> data[32 + num(w, 'A')] &= 255 - (1 << num(w, 'b'));
            case "SBI" -> data[32 + num(w, 'A')] |= 1 << num(w, 'b');
            case "SBIC" -> skipIf(!bitOf(32 + num(w, 'A'), w));
            case "SBIS" -> skipIf(bitOf(32 + num(w, 'A'), w));
            case "SBRC" -> skipIf(!bitOf(num(w, 'd'), w));
            case "SBRS" -> skipIf(bitOf(num(w, 'd'), w));
            case "BST" -> flag(T, bitOf(num(w, 'd'), w));
            case "BLD" -> {
                int bit = 1 << num(w, 'b');
                data[num(w, 'd')] = data[num(w, 'd')] & (255 - bit) | (flag(T) ? bit : 0);
            }
            case "BSET" -> flag(num(w, 's'), true);
            case "BCLR" -> flag(num(w, 's'), false);
            default -> {
                return false;
            }
        }
        return true;
    }

    private boolean bitOf(int place, int w) {
        return (data[place] & 1 << num(w, 'b')) != 0;
    }

    private boolean one(String name, int w) {
        int d = num(w, 'd');
        int a = data[d];
        switch (name) {
            case "COM" -> {
                data[d] = a ^ 255;
                signs(data[d], false);
                flag(C, true);
            }
            case "NEG" -> data[d] = minus(0, a, false, false);
            case "SWAP" -> data[d] = a % 16 * 16 + a / 16;
            case "INC" -> {
                data[d] = (a + 1) % 256;
                signs(data[d], a == 127);
            }
            case "DEC" -> {
                data[d] = (a + 255) % 256;
                signs(data[d], a == 128);
            }
            case "ASR" -> data[d] = right(a, a >= 128);
            case "LSR" -> data[d] = right(a, false);
            case "ROR" -> data[d] = right(a, flag(C));
            case "ADIW", "SBIW" -> {
                int low = 24 + 2 * num(w, 'p');
                int was = pair(low);
                pair(low, name.equals("ADIW") ? was + num(w, 'K') : was - num(w, 'K'));
                boolean wasHigh = was >= 32768;
                boolean isHigh = pair(low) >= 32768;
                boolean comes = !wasHigh && isHigh;
                boolean goes = wasHigh && !isHigh;
                signs(data[low + 1], name.equals("ADIW") ? comes : goes);
                flag(Z, pair(low) == 0);
                flag(C, name.equals("ADIW") ? goes : comes);
            }
            default -> {
                return false;
            }
        }
        return true;
    }

    private void many(String name, int w) {
        int d = num(w, 'd');
        int r = num(w, 'r');
        int d16 = 16 + num(w, 'D');
        int r16 = 16 + num(w, 'R');
        int k = num(w, 'K');
        switch (name) {
            case "MOVW" -> pair(2 * d, pair(2 * r));
            case "MUL" -> product(data[d] * data[r], false);
            case "MULS" -> product((byte) data[d16] * (byte) data[r16], false);
            case "MULSU" -> product((byte) data[d16] * data[r16], false);
            case "FMUL" -> product(data[d16] * data[r16], true);
            case "FMULS" -> product((byte) data[d16] * (byte) data[r16], true);
            case "FMULSU" -> product((byte) data[d16] * data[r16], true);
            case "CPC" -> minus(data[d], data[r], flag(C), true);
            case "SBC" -> data[d] = minus(data[d], data[r], flag(C), true);
            case "ADD" -> data[d] = plus(data[d], data[r], false);
            case "ADC" -> data[d] = plus(data[d], data[r], flag(C));
            case "CPSE" -> skipIf(data[d] == data[r]);
            case "CP" -> minus(data[d], data[r], false, false);
            case "SUB" -> data[d] = minus(data[d], data[r], false, false);
            case "AND" -> data[d] = signs(data[d] & data[r], false);
            case "EOR" -> data[d] = signs(data[d] ^ data[r], false);
            case "OR" -> data[d] = signs(data[d] | data[r], false);
            case "MOV" -> data[d] = data[r];
            case "CPI" -> minus(data[d16], k, false, false);
            case "SBCI" -> data[d16] = minus(data[d16], k, flag(C), true);
            case "SUBI" -> data[d16] = minus(data[d16], k, false, false);
            case "ORI" -> data[d16] = signs(data[d16] | k, false);
            case "ANDI" -> data[d16] = signs(data[d16] & k, false);
            case "LDI" -> data[d16] = k;
            default -> throw new IllegalStateException(name);
        }
    }

    private int signs(int x, boolean v) {
        flag(Z, x == 0);
        flag(N, x >= 128);
        flag(V, v);
        flag(S, x >= 128 != v);
        return x;
    }

    private int plus(int a, int b, boolean carry) {
        int c = carry ? 1 : 0;
        int real = (byte) a + (byte) b + c;
        int x = signs((a + b + c) % 256, real < -128 || real > 127);
        flag(C, (a & b | a & ~x | b & ~x) >> 7 != 0);
        flag(H, ((a & b | a & ~x | b & ~x) >> 3 & 1) != 0);
        return x;
    }

    private int minus(int a, int b, boolean carry, boolean zeroStays) {
        int c = carry ? 1 : 0;
        boolean wasZero = flag(Z);
        int real = (byte) a - (byte) b - c;
        int x = signs(Math.floorMod(a - b - c, 256), real < -128 || real > 127);
        flag(C, ((~a & b | ~a & x | b & x) >> 7 & 1) != 0);
        flag(H, ((~a & b | ~a & x | b & x) >> 3 & 1) != 0);
        if (zeroStays && !wasZero) {
            flag(Z, false);
        }
        return x;
    }

    private int right(int a, boolean comes) {
        int x = a / 2 + (comes ? 128 : 0);
        signs(x, comes != (a % 2 == 1));
        flag(C, a % 2 == 1);
        return x;
    }

    private void product(int whole, boolean fraction) {
        int p = Math.floorMod(whole, 65536);
        flag(C, p >= 32768);
        pair(0, fraction ? p * 2 : p);
        flag(Z, pair(0) == 0);
    }

    int digest() {
        long h = 7;
        for (int i = 0; i <= 1024; i++) {
            h = (31 * h + (i < 1024 ? data[i] : pc)) % (1L << 32);
        }
        return (int) h;
    }
}
