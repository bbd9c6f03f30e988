/** Promise 2 at the edges that the terms name for kinds 1 to 8. */
final class ReckoningEdgesTest {
    public static void main(String[] args) {
        Sentences due = new Sentences("ReckoningEdgesTest");
        addByANumber(due);
        addForm(due);
        addIsNotRound(due);
        addOfWordsBelow32(due);
        andForm(due);
        andIsRoundToo(due);
        andOfWordsBelow32(due);
        moveOfWordsBelow2(due);
        moveNot1(due);
        moveForm(due);
        adrpForm(due);
        maddForm(due);
        twoOperations(due);
        twoForm(due);
        chooseConditions(due);
        chooseForm(due);
        due.end();
    }

    private static void addByANumber(Sentences due) {
        due.sentence("ADD by a number 1F800000 11000000: bit 30 SUB, 29 with flags, 22 moved by 12, bits 10-21 the number");
        due.kinds(1, 0x11000000, 0x113FFC00, 0x11400000, 0x117FFFFF, 0x31000000, 0x51000000, 0x91000000, 0xF17FFFFF);
        due.kinds(0, 0x11800000, 0x91FFFFFF, 0x10FFFFFF, 0x12000000, 0x19000000, 0x01000000);
    }

    private static void addForm(Sentences due) {
        due.sentence("ADD 1F200000 0B000000");
        due.kinds(2, 0x0B000000, 0x2B000000, 0x4B000000, 0x8B000000, 0xEB9FFFFF);
        due.kinds(0, 0x0B200000, 0x8B200000, 0xEB3FFFFF);
    }

    private static void addIsNotRound(Sentences due) {
        due.sentence("3 round to the right, not of ADD");
        due.kinds(2, 0x0B000000, 0x0B400000, 0x0B800000, 0x8B000000, 0x8B400000, 0x8B800000, 0xEB9F7FFF);
        due.kinds(0, 0x0BC00000, 0x8BC00000, 0x2BC00000, 0x4BC00000, 0xEBDF7FFF);
    }

    private static void addOfWordsBelow32(Sentences due) {
        due.sentence("ADD: m is moved by bits 10-15 (below 32 of words)");
        due.kinds(2, 0x0B000000, 0x0B007C00, 0x4B407C00, 0x6B9F7FFF);
        due.kinds(0, 0x0B008000, 0x0B00FC00, 0x2B008000, 0x4B408000, 0x6B9FFFFF);
        due.kinds(2, 0x8B007C00, 0x8B008000, 0x8B00FC00, 0xEB9FFFFF);
    }

    private static void andForm(Sentences due) {
        due.sentence("AND 1F000000 0A000000: bits 29-30: 0 and, 1 or, 2 xor, 3 and with flags; bit 21: m's bits turned over");
        due.kinds(3, 0x0A000000, 0x2A000000, 0x4A000000, 0x6A000000, 0x0A200000, 0x6AFF7FFF, 0x8A000000, 0xEAFFFFFF);
        due.kinds(0, 0x09FFFFFF, 0x08000000, 0x02000000);
    }

    private static void andIsRoundToo(Sentences due) {
        due.sentence("AND: m is moved as bits 22-23 tell (0 left, 1 right, 2 right with sign, 3 round to the right)");
        due.kinds(3, 0x0A000000, 0x0A400000, 0x0A800000, 0x0AC00000, 0x8A000000, 0x8A400000, 0x8A800000, 0x8AC00000);
    }

    private static void andOfWordsBelow32(Sentences due) {
        due.sentence("AND: m is moved by bits 10-15 (below 32 of words)");
        due.kinds(3, 0x0A000000, 0x0A007C00, 0x2A407C00, 0x4A807C00, 0x6AFF7FFF);
        due.kinds(0, 0x0A008000, 0x0A00FC00, 0x2A408000, 0x4A808000, 0x0A208000, 0x6AFFFFFF);
        due.kinds(3, 0x8A007C00, 0x8A008000, 0x8A00FC00, 0xEAFFFFFF);
    }

    private static void moveOfWordsBelow2(Sentences due) {
        due.sentence("MOVE: bits 5-20 moved left by 16 times bits 21-22 (below 2 of words)");
        due.kinds(4, 0x12800000, 0x12A00000, 0x52800000, 0x52A00000, 0x72BFFFFF);
        due.kinds(0, 0x12C00000, 0x12E00000, 0x52C00000, 0x52E00000, 0x72C00000, 0x72FFFFFF);
        due.kinds(4, 0xD2800000, 0xD2A00000, 0xD2C00000, 0xD2E00000, 0x92FFFFFF, 0xF2FFFFFF);
    }

    private static void moveNot1(Sentences due) {
        due.sentence("MOVE: bits 29-30: 2 that, 0 its bits turned over, 3 these 16 bits of d become that; not 1");
        due.kinds(4, 0x12800000, 0x52800000, 0x72800000, 0x92800000, 0xD2800000, 0xF2800000);
        due.kinds(0, 0x32800000, 0x32A00000, 0xB2800000, 0xB2FFFFFF);
    }

    private static void moveForm(Sentences due) {
        due.sentence("MOVE 1F800000 12800000");
        due.kinds(4, 0x52800000, 0x529FFFFF);
        due.kinds(0, 0x52000000, 0x527FFFFF, 0x53000000, 0x53800000);
    }

    private static void adrpForm(Sentences due) {
        due.sentence("ADRP 9F000000 90000000");
        due.kinds(5, 0x90000000, 0xB0000000, 0xD0000000, 0xF0000000, 0x90FFFFFF, 0xF0FFFFFF);
        due.kinds(0, 0x10000000, 0x30000000, 0x50000000, 0x70FFFFFF, 0x98000000, 0x80000000);
    }

    private static void maddForm(Sentences due) {
        due.sentence("MADD 7FE00000 1B000000: a + n m, bit 15: a - n m");
        due.kinds(6, 0x1B000000, 0x1B008000, 0x1B1FFFFF, 0x9B000000, 0x9B1FFFFF);
        due.kinds(0, 0x1B200000, 0x9B200000, 0x1B400000, 0x1B800000, 0x3B000000, 0x5B000000, 0xDB1FFFFF);
    }

    private static void twoOperations(Sentences due) {
        due.sentence("Two: bits 10-15: 2 n / m without sign, 3 with sign, 8 left, 9 right, 10 right with sign");
        for (int operation = 0; operation < 64; operation++) {
            boolean told = operation == 2 || operation == 3 || operation == 8 || operation == 9 || operation == 10;
            due.kinds(told ? 7 : 0, 0x1AC00000 | operation << 10, 0x9ADF03FF | operation << 10);
        }
    }

    private static void twoForm(Sentences due) {
        due.sentence("Two 7FE00000 1AC00000");
        due.kinds(7, 0x1AC00800, 0x9AC00800, 0x9ADF0BFF);
        due.kinds(0, 0x1AE00800, 0x5AC00800, 0x3AC00800, 0x1A400800);
    }

    private static void chooseConditions(Sentences due) {
        due.sentence("CHOOSE: the condition of bits 12-15; Conditions are 0 .. 13 alone");
        for (int condition = 0; condition < 16; condition++) {
            int want = condition <= 13 ? 8 : 0;
            due.kinds(want, 0x1A800000 | condition << 12, 0x1A800400 | condition << 12);
            due.kinds(want, 0x9A9F03FF | condition << 12, 0x9A9F07FF | condition << 12);
        }
    }

    private static void chooseForm(Sentences due) {
        due.sentence("CHOOSE 7FE00800 1A800000: bit 10: m + 1");
        due.kinds(8, 0x1A800000, 0x1A800400, 0x9A9FD7FF);
        due.kinds(0, 0x1A800800, 0x1A800C00, 0x9A9FDFFF, 0x5A800000, 0x3A800000, 0x1AA00000, 0x1A000000);
    }
}
