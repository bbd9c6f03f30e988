/** Promise 3 at its edges: how far the farthest words go, and 1 of words that go nowhere. */
final class DistanceEdgesTest {
    public static void main(String[] args) {
        Sentences due = new Sentences("DistanceEdgesTest");
        twentySixBits(due);
        nineteenBits(due);
        fourteenBits(due);
        oneOfAnother(due);
        oneOfWordsLeftOut(due);
        due.end();
    }

    private static void twentySixBits(Sentences due) {
        due.sentence("by: B and BL: 26 bits with sign, times 4, from here");
        int[] forms = {0x14000000, 0x94000000};
        for (int w : forms) {
            due.by(w, 0);
            due.by(w | 0x00000001, 4);
            due.by(w | 0x01FFFFFF, 134217724);
            due.by(w | 0x02000000, -134217728);
            due.by(w | 0x03FFFFFF, -4);
        }
    }

    private static void nineteenBits(Sentences due) {
        due.sentence("by: B.cond, CBZ, CBNZ: bits 5-23 with sign, times 4");
        int[] forms = {0x54000000, 0x5400000D, 0x34000000, 0x3500001F, 0xB400001F, 0xB5000000};
        for (int w : forms) {
            due.by(w, 0);
            due.by(w | 0x00000020, 4);
            due.by(w | 0x007FFFE0, 1048572);
            due.by(w | 0x00800000, -1048576);
            due.by(w | 0x00FFFFE0, -4);
        }
    }

    private static void fourteenBits(Sentences due) {
        due.sentence("by: TBZ, TBNZ: bits 5-18 with sign, times 4 (bits 19-23 the bit's number)");
        int[] forms = {0x36000000, 0x3700001F, 0x36F80000, 0xB6080000, 0xB7F8001F};
        for (int w : forms) {
            due.by(w, 0);
            due.by(w | 0x00000020, 4);
            due.by(w | 0x0003FFE0, 32764);
            due.by(w | 0x00040000, -32768);
            due.by(w | 0x0007FFE0, -4);
        }
    }

    private static void oneOfAnother(Sentences due) {
        due.sentence("by: 1 of another");
        for (int kind = 1; kind <= Words.KINDS; kind++) {
            if (kind >= 12 && kind <= 16) {
                continue;
            }
            for (int w : Words.samples(kind)) {
                due.by(w, 1);
            }
        }
    }

    private static void oneOfWordsLeftOut(Sentences due) {
        due.sentence("by: 1 of another (what is no instruction)");
        int[] words = {0x00000000, 0xFFFFFFFF, 0x5400002E, 0x5400002F, 0x54000030, 0x55000020, 0x74000020, 0x76000020};
        for (int w : words) {
            due.by(w, 1);
        }
    }
}
