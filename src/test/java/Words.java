import java.util.ArrayList;
import java.util.List;

/** Words for the tests: their bits written out as texts, apart from the masks that the program uses. */
final class Words {
    /** The fixed bits of kind i + 1, from bit 31 down; x is any bit. */
    private static final String[] PATTERNS = {
        "xxx100010xxxxxxxxxxxxxxxxxxxxxxx",
        "xxx01011xx0xxxxxxxxxxxxxxxxxxxxx",
        "xxx01010xxxxxxxxxxxxxxxxxxxxxxxx",
        "xxx100101xxxxxxxxxxxxxxxxxxxxxxx",
        "1xx10000xxxxxxxxxxxxxxxxxxxxxxxx",
        "x0011011000xxxxxxxxxxxxxxxxxxxxx",
        "x0011010110xxxxxxxxxxxxxxxxxxxxx",
        "x0011010100xxxxxxxxx0xxxxxxxxxxx",
        "xx111001xxxxxxxxxxxxxxxxxxxxxxxx",
        "xx111000xx1xxxxx011x10xxxxxxxxxx",
        "1010100xxxxxxxxxxxxxxxxxxxxxxxxx",
        "000101xxxxxxxxxxxxxxxxxxxxxxxxxx",
        "100101xxxxxxxxxxxxxxxxxxxxxxxxxx",
        "01010100xxxxxxxxxxxxxxxxxxx0xxxx",
        "x011010xxxxxxxxxxxxxxxxxxxxxxxxx",
        "x011011xxxxxxxxxxxxxxxxxxxxxxxxx",
        "1101011000011111000000xxxxx00000",
        "1101011000111111000000xxxxx00000",
        "1101011001011111000000xxxxx00000",
        "11010100000xxxxxxxxxxxxxxxx00001",
        "11010101000000110010000000011111",
    };

    /** Words of kind i + 1, their fields unlike each other. */
    private static final int[][] SAMPLES = {
        {0x910003FD, 0xF1002041, 0x11400C22, 0x713FFFFF},
        {0x8B020020, 0xEB03FC41, 0x0B027C20, 0xCB94A6B5},
        {0x8A020020, 0xAA1F03E0, 0xCAC3FC41, 0x6A227C20},
        {0xD2800063, 0x92FFFFFF, 0x52BFFFE1, 0x72800022},
        {0x90000001, 0xB0000002, 0xF0FFFFFF, 0x90800003},
        {0x9B020C20, 0x1B020C21, 0x9B15D6B3, 0x1B1FFFFF},
        {0x9AC20820, 0x1AC20C20, 0x9AC32041, 0x1AC32441, 0x9AD52AB3},
        {0x9A820020, 0x1A83D441, 0x9A9F07E0, 0x1A95C2B3},
        {0xF9400041, 0x39000862, 0xB97FFC20, 0xB9800041},
        {0x38626841, 0xF8237882, 0xB8A26841, 0x383F6BFF},
        {0xA9BF7BFD, 0xA8C17BFD, 0xA9000400, 0xA9400821, 0xA8810861, 0xA9800020, 0xA8BFFFFF},
        {0x14000006, 0x17FFFFFB, 0x15FFFFFF, 0x16000000},
        {0x94000006, 0x97FFFFFB, 0x95FFFFFF, 0x96000000},
        {0x54000040, 0x54FFFF6B, 0x547FFFED, 0x5480000C},
        {0xB40000E3, 0x34FFFFE1, 0xB57FFFFF, 0x35800002},
        {0x36680005, 0xB7F80005, 0x3703FFFF, 0xB6040002},
        {0xD61F0120, 0xD61F0000, 0xD61F03E0},
        {0xD63F0120, 0xD63F0000, 0xD63F03E0},
        {0xD65F03C0, 0xD65F0000, 0xD65F03E0},
        {0xD4000001, 0xD41FFFE1, 0xD4002461},
        {0xD503201F},
    };

    /** Of kind i + 1, a word with registers 0 alone, and one with registers 31 alone and its other bits 1 where that is allowed. */
    private static final int[][] LEAST_AND_GREATEST = {
        {0x11000000, 0xF17FFFFF}, {0x0B000000, 0xEB9FFFFF}, {0x0A000000, 0xEAFFFFFF}, {0x12800000, 0xF2FFFFFF},
        {0x90000000, 0xF0FFFFFF}, {0x1B000000, 0x9B1FFFFF}, {0x1AC00800, 0x9ADF0BFF}, {0x1A800000, 0x9A9FD7FF},
        {0x39000000, 0xF97FFFFF}, {0x38206800, 0xF87F7BFF}, {0xA9000000, 0xA93FFFFF}, {0x14000000, 0x17FFFFFF},
        {0x94000000, 0x97FFFFFF}, {0x54000000, 0x54FFFFED}, {0x34000000, 0xB5FFFFFF}, {0x36000000, 0xB7FFFFFF},
        {0xD61F0000, 0xD61F03E0}, {0xD63F0000, 0xD63F03E0}, {0xD65F0000, 0xD65F03E0}, {0xD4000001, 0xD41FFFE1},
        {0xD503201F, 0xD503201F},
    };

    /** Words that look like an instruction but hold what the document leaves out, and others. */
    static final int[] NO_INSTRUCTIONS = {
        0x00000000, 0xFFFFFFFF, 0x7FFFFFFF, 0x80000000, 0x00000001,
        0x11800000, 0x0BC00000, 0x8BC00000, 0x0B008000, 0x0A008000, 0x8B200000,
        0xB2800000, 0x32800000, 0x52C00000, 0x52E00000, 0x12C00000, 0x72E00000,
        0x10000000, 0x70FFFFFF,
        0x9B200000, 0x5B000000, 0x1AC00000, 0x9AC00400, 0x9AC01000, 0x9AC01C00, 0x9AC02C00, 0x9AC08800,
        0x9A80E000, 0x9A80F000, 0x9A800800, 0x1A80E400, 0x5A800000,
        0x79000000, 0x79400000, 0x39800000, 0x39C00000, 0xF9800000, 0xF9C00000, 0xB9C00000, 0x79800000,
        0x78206800, 0x38A06800, 0x38E06800, 0xF8A06800, 0xB8E06800, 0xB8206000, 0xB820E800, 0xB8004800,
        0xA8000400, 0xA8400400, 0xA9400000, 0xA8C00000, 0xA9C00000,
        0xA8800420, 0xA8800841, 0xA9800821, 0xA8C00441, 0xA8C00841, 0xA9C00442, 0xA8800840, 0x29000400,
        0x5400000E, 0x5400000F, 0x54000010, 0x54FFFFFF, 0x55000000,
        0xD61F0001, 0xD61F0400, 0xD67F0000, 0xD69F03E0, 0xD63F0010, 0xD65F0FFF,
        0xD4000000, 0xD4000002, 0xD4000003, 0xD4200001, 0xD4000011,
        0xD503201E, 0xD503203F, 0xD503301F,
    };

    static final int KINDS = PATTERNS.length;

    private Words() {
    }

    static int[] samples(int kind) {
        return SAMPLES[kind - 1];
    }

    static int least(int kind) {
        return LEAST_AND_GREATEST[kind - 1][0];
    }

    static int greatest(int kind) {
        return LEAST_AND_GREATEST[kind - 1][1];
    }

    /** The kind of a word, read off the texts and the rules of the document's terms. */
    static int kindDue(int w) {
        for (int kind = 1; kind <= KINDS; kind++) {
            if (fits(w, PATTERNS[kind - 1])) {
                return ruledOut(w, kind) ? 0 : kind;
            }
        }
        return 0;
    }

    /** How many kinds' fixed bits a word has. */
    static int patternsFitting(int w) {
        int count = 0;
        for (String pattern : PATTERNS) {
            count += fits(w, pattern) ? 1 : 0;
        }
        return count;
    }

    /** All samples, then words that are no instruction. */
    static List<Integer> all() {
        List<Integer> words = new ArrayList<>();
        for (int[] samples : SAMPLES) {
            for (int w : samples) {
                words.add(w);
            }
        }
        for (int w : NO_INSTRUCTIONS) {
            words.add(w);
        }
        return words;
    }

    private static boolean fits(int w, String pattern) {
        for (int i = 0; i < 32; i++) {
            char due = pattern.charAt(i);
            if (due != 'x' && (w << i < 0) != (due == '1')) {
                return false;
            }
        }
        return true;
    }

    private static int field(int w, int high, int low) {
        return (int) ((w & 0xFFFFFFFFL) % (1L << (high + 1)) / (1L << low));
    }

    private static boolean ruledOut(int w, int kind) {
        boolean words = field(w, 31, 31) == 0;
        switch (kind) {
            case 2: return field(w, 23, 22) == 3 || words && field(w, 15, 15) == 1;
            case 3: return words && field(w, 15, 15) == 1;
            case 4: return field(w, 30, 29) == 1 || words && field(w, 22, 22) == 1;
            case 7: return !List.of(2, 3, 8, 9, 10).contains(field(w, 15, 10));
            case 8: return field(w, 15, 12) >= 14;
            case 9:
            case 10: return !List.of(0x00, 0x01, 0x20, 0x21, 0x22, 0x30, 0x31).contains(field(w, 31, 30) * 16 + field(w, 23, 22));
            case 11: return pairRuledOut(field(w, 24, 23), field(w, 22, 22), w);
            case 14: return field(w, 3, 0) >= 14;
            default: return false;
        }
    }

    private static boolean pairRuledOut(int way, int load, int w) {
        int d = field(w, 4, 0);
        int n = field(w, 9, 5);
        int a = field(w, 14, 10);
        boolean nChanged = way == 1 || way == 3;
        return way == 0 || load == 1 && d == a || nChanged && n < 31 && (n == d || n == a);
    }
}
