/** Promise 8 at its edges. */
final class PagingEdgesTest {
    public static void main(String[] args) {
        Sentences due = new Sentences("PagingEdgesTest");
        farthestForward(due);
        tooFarForward(due);
        farthestBack(due);
        tooFarBack(due);
        lowest12Bits(due);
        withItsRegister(due);
        endsOfTheLongs(due);
        noAdrp(due);
        due.end();
    }

    private static void farthestForward(Sentences due) {
        due.sentence("paging: the pages are 1048576 or more apart forward (1048575 are not)");
        due.paging(0x90000001, 0L, 4294963200L, 0xF07FFFE1);
        due.paging(0x90000001, 0L, 4294967295L, 0xF07FFFE1);
        due.paging(0x90000001, 4092L, 4294963200L, 0xF07FFFE1);
        due.paging(0x90000001, -4294963200L, 4095L, 0xF07FFFE1);
        due.paging(0x90000001, 1L << 40, (1L << 40) + 4294967295L, 0xF07FFFE1);
    }

    private static void tooFarForward(Sentences due) {
        due.sentence("paging: the word itself if the pages are 1048576 or more apart forward");
        due.paging(0xB0000001, 0L, 4294967296L, 0xB0000001);
        due.paging(0xB0000001, 4092L, 4294967296L, 0xB0000001);
        due.paging(0xB0000001, 4L, 4294971392L, 0xB0000001);
        due.paging(0xB0000001, -4L, 4294963200L, 0xB0000001);
        due.paging(0xB0000001, 0L, 8589934592L, 0xB0000001);
        due.paging(0xB0000001, 0L, 1L << 44, 0xB0000001);
        due.paging(0xB0000001, 0L, Long.MAX_VALUE, 0xB0000001);
    }

    private static void farthestBack(Sentences due) {
        due.sentence("paging: more than that back (1048576 are not)");
        due.paging(0xB0000001, 4294967296L, 0L, 0x90800001);
        due.paging(0xB0000001, 4294971388L, 0L, 0x90800001);
        due.paging(0xB0000001, 4294967296L, 4095L, 0x90800001);
        due.paging(0xB0000001, 0L, -4294967296L, 0x90800001);
        due.paging(0x90000001, 4294963200L, 0L, 0xB0800001);
    }

    private static void tooFarBack(Sentences due) {
        due.sentence("paging: the word itself if the pages are more than that apart back");
        due.paging(0xB0000001, 4294971392L, 0L, 0xB0000001);
        due.paging(0xB0000001, 4294971392L, 4095L, 0xB0000001);
        due.paging(0xB0000001, 4294967296L, -1L, 0xB0000001);
        due.paging(0xB0000001, 8589934592L, 0L, 0xB0000001);
        due.paging(0xB0000001, 1L << 44, 0L, 0xB0000001);
        due.paging(0xB0000001, 0L, Long.MIN_VALUE, 0xB0000001);
    }

    private static void lowest12Bits(Sentences due) {
        due.sentence("paging: makes, at an address, the target with its lowest 12 bits 0");
        due.paging(0xB0000001, 4092L, 0L, 0x90000001);
        due.paging(0xB0000001, 0L, 4095L, 0x90000001);
        due.paging(0x90000001, 4092L, 4096L, 0xB0000001);
        due.paging(0x90000001, 4096L, 4095L, 0xF0FFFFE1);
        due.paging(0x90000001, 0L, -1L, 0xF0FFFFE1);
        due.paging(0x90000001, -4L, 0L, 0xB0000001);
        due.paging(0x90000001, 0L, 16383L, 0xF0000001);
        due.paging(0x90000001, 0L, 16384L, 0x90000021);
    }

    private static void withItsRegister(Sentences due) {
        due.sentence("paging: The ADRP (with its register)");
        for (int d = 0; d < 32; d++) {
            due.paging(0x90000000 | d, 0L, 4294967295L, 0xF07FFFE0 | d);
            due.paging(0xF0FFFFE0 | d, 0L, 0L, 0x90000000 | d);
        }
    }

    // page steps from the highest page to the lowest, yet as longs these two are farther apart than any others.
    private static void endsOfTheLongs(Sentences due) {
        due.sentence("paging: Addresses are longs (the highest and the lowest page are far apart)");
        due.paging(0xD0000001, Long.MAX_VALUE - 3, Long.MIN_VALUE, 0xD0000001);
        due.paging(0xD0000001, Long.MIN_VALUE, Long.MAX_VALUE, 0xD0000001);
        due.paging(0xD0000001, Long.MIN_VALUE, Long.MIN_VALUE + 4096, 0xB0000001);
        due.paging(0xD0000001, Long.MAX_VALUE - 3, Long.MAX_VALUE - 4096, 0xF0FFFFE1);
    }

    private static void noAdrp(Sentences due) {
        due.sentence("paging: the word itself if it is no ADRP");
        for (int kind = 1; kind <= Words.KINDS; kind++) {
            if (kind == 5) {
                continue;
            }
            for (int w : Words.samples(kind)) {
                due.paging(w, 65540L, 524365L, w);
            }
        }
        int[] noInstructions = {0x00000000, 0xFFFFFFFF, 0x10000001, 0x30000001, 0x70FFFFFF};
        for (int w : noInstructions) {
            due.paging(w, 65540L, 524365L, w);
        }
    }
}
