import java.util.ArrayList;
import java.util.List;

/** The words as the document writes them (D, R for d', r'), each with a name; the first that fits is it. */
final class Patterns {
    static final String[][] TABLE = {
        {"NOP", "0000 0000 0000 0000"}, {"MOVW", "0000 0001 dddd rrrr"},
        {"MUL", "1001 11rd dddd rrrr"}, {"MULS", "0000 0010 DDDD RRRR"}, {"MULSU", "0000 0011 0DDD 0RRR"},
        {"FMUL", "0000 0011 0DDD 1RRR"}, {"FMULS", "0000 0011 1DDD 0RRR"}, {"FMULSU", "0000 0011 1DDD 1RRR"},
        {"CPC", "0000 01rd dddd rrrr"}, {"SBC", "0000 10rd dddd rrrr"}, {"ADD", "0000 11rd dddd rrrr"},
        {"CPSE", "0001 00rd dddd rrrr"}, {"CP", "0001 01rd dddd rrrr"}, {"SUB", "0001 10rd dddd rrrr"},
        {"ADC", "0001 11rd dddd rrrr"}, {"AND", "0010 00rd dddd rrrr"}, {"EOR", "0010 01rd dddd rrrr"},
        {"OR", "0010 10rd dddd rrrr"}, {"MOV", "0010 11rd dddd rrrr"},
        {"CPI", "0011 KKKK DDDD KKKK"}, {"SBCI", "0100 KKKK DDDD KKKK"}, {"SUBI", "0101 KKKK DDDD KKKK"},
        {"ORI", "0110 KKKK DDDD KKKK"}, {"ANDI", "0111 KKKK DDDD KKKK"}, {"LDI", "1110 KKKK DDDD KKKK"},
        {"COM", "1001 010d dddd 0000"}, {"NEG", "1001 010d dddd 0001"}, {"SWAP", "1001 010d dddd 0010"},
        {"INC", "1001 010d dddd 0011"}, {"DEC", "1001 010d dddd 1010"}, {"ASR", "1001 010d dddd 0101"},
        {"LSR", "1001 010d dddd 0110"}, {"ROR", "1001 010d dddd 0111"},
        {"BSET", "1001 0100 0sss 1000"}, {"BCLR", "1001 0100 1sss 1000"},
        {"ADIW", "1001 0110 KKpp KKKK"}, {"SBIW", "1001 0111 KKpp KKKK"},
        {"LDS", "1001 000d dddd 0000"}, {"LD Z+", "1001 000d dddd 0001"}, {"LD -Z", "1001 000d dddd 0010"},
        {"LD Y+", "1001 000d dddd 1001"}, {"LD -Y", "1001 000d dddd 1010"}, {"LD X", "1001 000d dddd 1100"},
        {"LD X+", "1001 000d dddd 1101"}, {"LD -X", "1001 000d dddd 1110"}, {"POP", "1001 000d dddd 1111"},
        {"STS", "1001 001d dddd 0000"}, {"ST Z+", "1001 001d dddd 0001"}, {"ST -Z", "1001 001d dddd 0010"},
        {"ST Y+", "1001 001d dddd 1001"}, {"ST -Y", "1001 001d dddd 1010"}, {"ST X", "1001 001d dddd 1100"},
        {"ST X+", "1001 001d dddd 1101"}, {"ST -X", "1001 001d dddd 1110"}, {"PUSH", "1001 001d dddd 1111"},
        {"LDD", "10q0 qq0d dddd pqqq"}, {"STD", "10q0 qq1d dddd pqqq"},
        {"LPM", "1001 000d dddd 0100"}, {"LPM Z+", "1001 000d dddd 0101"}, {"LPM R0", "1001 0101 1100 1000"},
        {"IN", "1011 0AAd dddd AAAA"}, {"OUT", "1011 1AAd dddd AAAA"},
        {"CBI", "1001 1000 AAAA Abbb"}, {"SBI", "1001 1010 AAAA Abbb"},
        {"SBIC", "1001 1001 AAAA Abbb"}, {"SBIS", "1001 1011 AAAA Abbb"},
        {"SBRC", "1111 110d dddd 0bbb"}, {"SBRS", "1111 111d dddd 0bbb"},
        {"BST", "1111 101d dddd 0bbb"}, {"BLD", "1111 100d dddd 0bbb"},
        {"RJMP", "1100 kkkk kkkk kkkk"}, {"RCALL", "1101 kkkk kkkk kkkk"},
        {"IJMP", "1001 0100 0000 1001"}, {"ICALL", "1001 0101 0000 1001"},
        {"JMP", "1001 010k kkkk 110k"}, {"CALL", "1001 010k kkkk 111k"},
        {"BRBS", "1111 00kk kkkk ksss"}, {"BRBC", "1111 01kk kkkk ksss"},
        {"RET", "1001 0101 0000 1000"}, {"RETI", "1001 0101 0001 1000"},
    };

    private static final int[] KIND = new int[65536];
    private static final List<List<Integer>> WORDS = new ArrayList<>();

    static {
        java.util.Arrays.fill(KIND, -1);
        for (int i = 0; i < TABLE.length; i++) {
            List<Integer> mine = new ArrayList<>();
            for (int w = 0; w < 65536; w++) {
                if (fits(bits(i), w) && !pointerIsRegister(TABLE[i][0], w)) {
                    if (KIND[w] >= 0) {
                        throw new IllegalStateException(TABLE[i][0] + " and " + TABLE[KIND[w]][0] + " are both " + w);
                    }
                    KIND[w] = i;
                    mine.add(w);
                }
            }
            WORDS.add(mine);
        }
    }

    private Patterns() {
    }

    private static String bits(int i) {
        return TABLE[i][1].replace(" ", "");
    }

    private static boolean fits(String bits, int w) {
        for (int i = 0; i < 16; i++) {
            int bit = w >> (15 - i) & 1;
            if (bits.charAt(i) == '0' && bit == 1 || bits.charAt(i) == '1' && bit == 0) {
                return false;
            }
        }
        return true;
    }

    private static boolean pointerIsRegister(String name, int w) {
        if (!name.endsWith("+") && name.indexOf('-') < 0) {
            return false;
        }
        int d = w >> 4 & 31;
        int low = name.indexOf('X') >= 0 ? 26 : name.indexOf('Y') >= 0 ? 28 : 30;
        return d == low || d == low + 1;
    }

    /** The name of a word, or null if it is ILLEGAL. */
    static String name(int w) {
        return KIND[w] < 0 ? null : TABLE[KIND[w]][0];
    }

    static int kinds() {
        return TABLE.length;
    }

    static List<Integer> wordsOf(int kind) {
        return WORDS.get(kind);
    }

    /** The number that the letter's bits are in the word. */
    static int number(int w, char letter) {
        String bits = bits(KIND[w]);
        int number = 0;
        for (int i = 0; i < 16; i++) {
            if (bits.charAt(i) == letter) {
                number = number << 1 | w >> (15 - i) & 1;
            }
        }
        return number;
    }

    /** The same with the highest of the letter's bits as a sign. */
    static int signedNumber(int w, char letter) {
        int width = (int) bits(KIND[w]).chars().filter(c -> c == letter).count();
        return number(w, letter) << (32 - width) >> (32 - width);
    }

    static boolean hasNext(int w) {
        String name = name(w);
        return name != null && List.of("LDS", "STS", "JMP", "CALL").contains(name);
    }

    /** The first word of the name with these numbers in its letters ('d', 5, 'r', 7, ..). */
    static int word(String name, int... lettersAndNumbers) {
        for (int i = 0; i < TABLE.length; i++) {
            if (TABLE[i][0].equals(name)) {
                int w = fill(bits(i), lettersAndNumbers);
                if (!name.equals(name(w))) {
                    throw new IllegalArgumentException(name + " " + w);
                }
                return w;
            }
        }
        throw new IllegalArgumentException(name);
    }

    private static int fill(String bits, int[] lettersAndNumbers) {
        int[] left = lettersAndNumbers.clone();
        int w = 0;
        for (int i = 15; i >= 0; i--) {
            char c = bits.charAt(i);
            int bit = c == '1' ? 1 : 0;
            for (int j = 0; j + 1 < left.length; j += 2) {
                if (left[j] == c) {
                    bit = left[j + 1] & 1;
                    left[j + 1] >>= 1;
                }
            }
            w |= bit << (15 - i);
        }
        return w;
    }
}
