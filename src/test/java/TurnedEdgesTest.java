/** Promise 6 at its edges. */
final class TurnedEdgesTest {
    public static void main(String[] args) {
        Sentences due = new Sentences("TurnedEdgesTest");
        lowestBitOfTheCondition(due);
        compareAndTest(due);
        conditionsLeftOut(due);
        othersAsTheyAre(due);
        due.end();
    }

    private static void lowestBitOfTheCondition(Sentences due) {
        due.sentence("turned: A word of kind 14 turned over (the condition's lowest bit)");
        int[][] pairs = {{0, 1}, {2, 3}, {4, 5}, {6, 7}, {8, 9}, {10, 11}, {12, 13}};
        for (int[] pair : pairs) {
            due.turned(0x54000000 | pair[0], 0x54000000 | pair[1]);
            due.turned(0x54000000 | pair[1], 0x54000000 | pair[0]);
            due.turned(0x54FFFFE0 | pair[0], 0x54FFFFE0 | pair[1]);
            due.turned(0x54FFFFE0 | pair[1], 0x54FFFFE0 | pair[0]);
        }
    }

    private static void compareAndTest(Sentences due) {
        due.sentence("turned: CBZ and CBNZ, TBZ and TBNZ");
        int[][] pairs = {
            {0x34000000, 0x35000000}, {0x34FFFFFF, 0x35FFFFFF}, {0xB4000000, 0xB5000000}, {0xB4FFFFFF, 0xB5FFFFFF},
            {0x36000000, 0x37000000}, {0x36FFFFFF, 0x37FFFFFF}, {0xB6000000, 0xB7000000}, {0xB6FFFFFF, 0xB7FFFFFF},
        };
        for (int[] pair : pairs) {
            due.turned(pair[0], pair[1]);
            due.turned(pair[1], pair[0]);
        }
    }

    private static void conditionsLeftOut(Sentences due) {
        due.sentence("turned: others as they are (B.cond with no condition of 0 .. 13 is no instruction)");
        int[] words = {0x5400000E, 0x5400000F, 0x54FFFFEE, 0x54FFFFEF, 0x54000010, 0x54000011, 0x55000000};
        for (int w : words) {
            due.turned(w, w);
        }
    }

    private static void othersAsTheyAre(Sentences due) {
        due.sentence("turned: others as they are");
        for (int kind = 1; kind <= Words.KINDS; kind++) {
            if (kind >= 14 && kind <= 16) {
                continue;
            }
            for (int w : Words.samples(kind)) {
                due.turned(w, w);
            }
        }
        int[] words = {0x00000000, 0xFFFFFFFF, 0x74000000, 0x75000000, 0xF6000000, 0x1A800000, 0x1A801000};
        for (int w : words) {
            due.turned(w, w);
        }
    }
}
