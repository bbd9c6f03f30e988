/** Promise 2 one bit beside each form: a word of a kind with one bit of the mask turned over is of that kind no more. */
final class FormsEdgesTest {
    /** Of kind i + 1, what the document calls its form, and its mask. */
    private static final String[] NAMES = {
        "ADD by a number", "ADD", "AND", "MOVE", "ADRP", "MADD", "Two", "CHOOSE", "LOAD by a number",
        "LOAD by a register", "PAIR", "B", "BL", "B.cond", "CBZ", "TBZ", "BR", "BLR", "RET", "CALL", "nothing",
    };
    private static final int[] MASKS = {
        0x1F800000, 0x1F200000, 0x1F000000, 0x1F800000, 0x9F000000, 0x7FE00000, 0x7FE00000, 0x7FE00800, 0x3F000000,
        0x3F20EC00, 0xFE000000, 0xFC000000, 0xFC000000, 0xFF000010, 0x7E000000, 0x7E000000, 0xFFFFFC1F, 0xFFFFFC1F,
        0xFFFFFC1F, 0xFFE0001F, 0xFFFFFFFF,
    };

    public static void main(String[] args) {
        Sentences due = new Sentences("FormsEdgesTest");
        for (int kind = 1; kind <= NAMES.length; kind++) {
            due.sentence("w & mask = value: " + NAMES[kind - 1]);
            checkBits(due, kind, Words.least(kind));
            checkBits(due, kind, Words.greatest(kind));
            for (int w : Words.samples(kind)) {
                checkBits(due, kind, w);
            }
        }
        due.end();
    }

    private static void checkBits(Sentences due, int kind, int w) {
        due.kinds(kind, w);
        for (int bit = 0; bit < 32; bit++) {
            if ((MASKS[kind - 1] >> bit & 1) == 1) {
                due.kindIsNot(kind, w ^ 1 << bit);
            }
        }
    }
}
