/** The document's REACH, and distances at, beside and far from its ends. */
final class Reaches {
    static final long[] DISTANCES = {
        0, 1, 2, 3, 4, 5, 8, 16, -1, -2, -3, -4, -5, -8,
        32760, 32761, 32762, 32763, 32764, 32765, 32766, 32768, 32772, -32764, -32767, -32768, -32769, -32772,
        1048568, 1048571, 1048572, 1048573, 1048574, 1048576, 1048580,
        -1048572, -1048575, -1048576, -1048577, -1048578, -1048580,
        134217720, 134217723, 134217724, 134217725, 134217728, 134217732,
        -134217724, -134217727, -134217728, -134217729, -134217730, -134217732,
        0x7FFFFFFCL, 0x7FFFFFFFL, -0x80000000L,
    };
    static final long[] LONG_DISTANCES = {
        0x80000000L, 0xFFFFFFFCL, 0x100000000L, 0x100000004L, -0x100000000L, -0xFFFFFFFCL, 0xFFFFFFFF00000000L,
        Long.MAX_VALUE, Long.MAX_VALUE - 3, Long.MIN_VALUE, Long.MIN_VALUE + 4,
    };

    private Reaches() {
    }

    static boolean reachDue(int kind, long by) {
        if (kind == 12 || kind == 13) {
            return by % 4 == 0 && by >= -134217728L && by <= 134217724L;
        }
        if (kind == 14 || kind == 15) {
            return by % 4 == 0 && by >= -1048576L && by <= 1048572L;
        }
        return kind == 16 && by % 4 == 0 && by >= -32768L && by <= 32764L;
    }
}
