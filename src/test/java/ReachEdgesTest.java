/** Promise 5 at the edges of REACH. */
final class ReachEdgesTest {
    private static final int[] KINDS_12_13 = {0x14000000, 0x17FFFFFF, 0x94000000, 0x97FFFFFF};
    private static final int[] KINDS_14_15 = {0x54000000, 0x54FFFFED, 0x34000000, 0x35FFFFFF, 0xB4000000, 0xB5FFFFFF};
    private static final int[] KIND_16 = {0x36000000, 0x37FFFFFF, 0xB6000000, 0xB7FFFFFF};

    public static void main(String[] args) {
        Sentences due = new Sentences("ReachEdgesTest");
        kinds12And13(due);
        kinds14And15(due);
        kind16(due);
        multiplesOf4(due);
        beyondTheInts(due);
        falseOfAnother(due);
        due.end();
    }

    private static void kinds12And13(Sentences due) {
        due.sentence("reaches: REACH of kinds 12 and 13: from -134217728 to 134217724");
        for (int w : KINDS_12_13) {
            due.reaches(w, -134217728L, -134217724L, 134217720L, 134217724L);
            due.reachesNot(w, -134217732L, -134217729L, 134217725L, 134217728L, 134217732L);
        }
    }

    private static void kinds14And15(Sentences due) {
        due.sentence("reaches: REACH of kinds 14 and 15: from -1048576 to 1048572");
        for (int w : KINDS_14_15) {
            due.reaches(w, -1048576L, -1048572L, 1048568L, 1048572L);
            due.reachesNot(w, -1048580L, -1048577L, 1048573L, 1048576L, 1048580L, -134217728L, 134217724L);
        }
    }

    private static void kind16(Sentences due) {
        due.sentence("reaches: REACH of kind 16: from -32768 to 32764");
        for (int w : KIND_16) {
            due.reaches(w, -32768L, -32764L, 32760L, 32764L);
            due.reachesNot(w, -32772L, -32769L, 32765L, 32768L, 32772L, -1048576L, 1048572L);
        }
    }

    private static void multiplesOf4(Sentences due) {
        due.sentence("reaches: REACH: multiples of 4");
        int[][] groups = {KINDS_12_13, KINDS_14_15, KIND_16};
        for (int[] group : groups) {
            for (int w : group) {
                due.reaches(w, -8L, -4L, 0L, 4L, 8L);
                due.reachesNot(w, -7L, -6L, -5L, -3L, -2L, -1L, 1L, 2L, 3L, 5L, 6L, 7L, -32767L, 32763L);
            }
        }
    }

    // What an int would make of these longs is within reach.
    private static void beyondTheInts(Sentences due) {
        due.sentence("reaches(int w, long by): Whether a word reaches so far (by beyond the ints)");
        int[][] groups = {KINDS_12_13, KINDS_14_15, KIND_16};
        for (int[] group : groups) {
            for (int w : group) {
                due.reachesNot(w, 4294967296L, 4294967300L, 4294967292L, -4294967296L, -4294967292L, -4294967300L);
                due.reachesNot(w, 2147483648L, -2147483648L, 2147483644L, 1L << 40, -(1L << 40));
                due.reachesNot(w, Long.MIN_VALUE, Long.MIN_VALUE + 4, Long.MAX_VALUE - 3, Long.MAX_VALUE);
            }
        }
    }

    private static void falseOfAnother(Sentences due) {
        due.sentence("reaches: false of another");
        for (int kind = 1; kind <= Words.KINDS; kind++) {
            if (kind >= 12 && kind <= 16) {
                continue;
            }
            for (int w : Words.samples(kind)) {
                due.reachesNot(w, 0L, 1L, 4L, -4L);
            }
        }
        int[] noInstructions = {0x00000000, 0xFFFFFFFF, 0x5400000E, 0x5400000F, 0x54000010, 0x74000000, 0x76000000};
        for (int w : noInstructions) {
            due.reachesNot(w, 0L, 1L, 4L, -4L);
        }
    }
}
