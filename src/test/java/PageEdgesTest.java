/** Promise 7 at its edges. */
final class PageEdgesTest {
    public static void main(String[] args) {
        Sentences due = new Sentences("PageEdgesTest");
        lowest12Bits(due);
        numberWithSign(due);
        bitsBelow(due);
        wrapsAround(due);
        otherWords(due);
        due.end();
    }

    private static void lowest12Bits(Sentences due) {
        due.sentence("page: ADRP: the lowest 12 bits of its address 0");
        due.page(0x90000000, 0L, 0L);
        due.page(0x90000000, 4L, 0L);
        due.page(0x90000000, 4092L, 0L);
        due.page(0x90000000, 4096L, 4096L);
        due.page(0x90000000, 8188L, 4096L);
        due.page(0x90000000, -4L, -4096L);
        due.page(0x90000000, -4096L, -4096L);
        due.page(0x90000000, -4100L, -8192L);
        due.page(0x9000001F, 0x123456789ABCDEFCL, 0x123456789ABCD000L);
        due.page(0x90000000, Long.MIN_VALUE, Long.MIN_VALUE);
        due.page(0x90000000, Long.MAX_VALUE - 3, Long.MAX_VALUE - 4095);
    }

    private static void numberWithSign(Sentences due) {
        due.sentence("page: a number with sign, times 4096");
        due.page(0xF07FFFE0, 0L, 4294963200L);
        due.page(0xF07FFFE0, 4092L, 4294963200L);
        due.page(0x90800000, 0L, -4294967296L);
        due.page(0x90800000, 4294971388L, 0L);
        due.page(0xF0FFFFE0, 4096L, 0L);
        due.page(0xF0FFFFE0, 4092L, -4096L);
        due.page(0xB0000000, -4L, 0L);
    }

    private static void bitsBelow(Sentences due) {
        due.sentence("page: bits 5-23, then 29-30 below them");
        due.page(0xB0000000, 0L, 4096L);
        due.page(0xD0000000, 0L, 8192L);
        due.page(0xF0000000, 0L, 12288L);
        due.page(0x90000020, 0L, 16384L);
        due.page(0xF0000020, 0L, 28672L);
        due.page(0x90400000, 0L, 2147483648L);
        due.page(0x90FFFFE0, 0L, -16384L);
        due.page(0xB0FFFFE0, 0L, -12288L);
    }

    private static void wrapsAround(Sentences due) {
        due.sentence("page: Addresses are longs (behind the highest page comes the lowest)");
        due.page(0xB0000000, Long.MAX_VALUE - 3, Long.MIN_VALUE);
        due.page(0xF0FFFFE0, Long.MIN_VALUE, Long.MAX_VALUE - 4095);
        due.page(0xF07FFFE0, Long.MAX_VALUE - 3, Long.MIN_VALUE + 4294959104L);
        due.page(0x90800000, Long.MIN_VALUE + 4092, Long.MAX_VALUE - 4294967295L);
    }

    private static void otherWords(Sentences due) {
        due.sentence("page: -1 of other words");
        for (int kind = 1; kind <= Words.KINDS; kind++) {
            if (kind == 5) {
                continue;
            }
            for (int w : Words.samples(kind)) {
                due.page(w, 65536L, -1L);
            }
        }
        int[] noInstructions = {0x00000000, 0xFFFFFFFF, 0x10000000, 0x30000000, 0x70FFFFFF};
        for (int w : noInstructions) {
            due.page(w, 65536L, -1L);
            due.page(w, 0L, -1L);
            due.page(w, Long.MIN_VALUE, -1L);
        }
    }
}
