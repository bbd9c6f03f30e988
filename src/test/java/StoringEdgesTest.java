/** Promise 2 at the edges that the terms name for kinds 9 to 11. */
final class StoringEdgesTest {
    /** Of PAIR: bits 22-24 of its ways, to be set in 0xA8000000. */
    private static final int CHANGES_BEHIND = 0x00800000;
    private static final int CHANGES_NOT = 0x01000000;
    private static final int CHANGES_BEFORE = 0x01800000;
    private static final int LOADS = 0x00400000;
    private static final int PAIR = 0xA8000000;

    public static void main(String[] args) {
        Sentences due = new Sentences("StoringEdgesTest");
        loadForms(due);
        loadSizeNot1(due);
        loadWithSignOfWordsAlone(due);
        loadNoFourthWay(due);
        pairForm(due);
        pairWayNot0(due);
        pairChangedNIsNotD(due);
        pairChangedNIsNotA(due);
        pairChangedN31(due);
        pairUnchangedN(due);
        pairLoadsTwo(due);
        due.end();
    }

    private static void loadForms(Sentences due) {
        due.sentence("LOAD by a number 3F000000 39000000 and by a register 3F20EC00 38206800");
        due.kinds(9, 0x39000000, 0x393FFFFF, 0x397FFFFF, 0xF93FFC00, 0xB9BFFFFF);
        due.kinds(0, 0x3D000000, 0x29000000, 0x3A000000);
        due.kinds(10, 0x38206800, 0x38207800, 0xF83F7BFF, 0xB8BF7BFF, 0x387F6BFF);
        due.kinds(0, 0x38006800, 0x38206C00, 0x38206000, 0x38204800, 0x38202800, 0x3820E800, 0x3C206800);
    }

    private static void loadSizeNot1(Sentences due) {
        due.sentence("LOAD: bits 30-31: 0 one byte, 2 a word, 3 a long (not 1)");
        due.kinds(9, 0x39000000, 0x39400000, 0xB9000000, 0xB9400000, 0xF9000000, 0xF9400000);
        due.kinds(0, 0x79000000, 0x79400000, 0x797FFFFF);
        due.kinds(10, 0x38206800, 0x38606800, 0xB8206800, 0xB8606800, 0xF8206800, 0xF8606800);
        due.kinds(0, 0x78206800, 0x78606800, 0x787F7BFF);
    }

    private static void loadWithSignOfWordsAlone(Sentences due) {
        due.sentence("LOAD: bits 22-23: 2 a word with its sign to a long (of words alone)");
        due.kinds(9, 0xB9800000, 0xB9BFFFFF);
        due.kinds(0, 0x39800000, 0x79800000, 0xF9800000, 0xF9BFFFFF);
        due.kinds(10, 0xB8A06800, 0xB8BF7BFF);
        due.kinds(0, 0x38A06800, 0x78A06800, 0xF8A06800, 0xF8BF7BFF);
    }

    private static void loadNoFourthWay(Sentences due) {
        due.sentence("LOAD: bits 22-23: 0 store, 1 load, 2 a word with its sign to a long");
        due.kinds(9, 0xB9000000, 0xB9400000, 0xB9800000);
        due.kinds(0, 0x39C00000, 0x79C00000, 0xB9C00000, 0xF9C00000, 0xF9FFFFFF);
        due.kinds(10, 0xB8206800, 0xB8606800, 0xB8A06800);
        due.kinds(0, 0x38E06800, 0x78E06800, 0xB8E06800, 0xF8E06800, 0xF8FF7BFF);
    }

    private static void pairForm(Sentences due) {
        due.sentence("PAIR FE000000 A8000000: the number: bits 15-21 with sign");
        due.kinds(11, 0xA90007E0, 0xA91F87E0, 0xA92007E0, 0xA93F87E0);
        due.kinds(0, 0x290007E0, 0xE90007E0, 0x890007E0, 0xAD0007E0, 0xA10007E0);
    }

    private static void pairWayNot0(Sentences due) {
        due.sentence("PAIR: bits 23-24: 1 n's place, n changes behind, 2 n and the number, 3 the same, and n becomes that; not 0");
        due.kinds(11, 0xA88007E0, 0xA90007E0, 0xA98007E0, 0xA8C007E0, 0xA94007E0, 0xA9C007E0);
        due.kinds(0, 0xA80007E0, 0xA84007E0, 0xA83F87E0, 0xA87F87E0);
    }

    private static void pairChangedNIsNotD(Sentences due) {
        due.sentence("PAIR: with 1 and 3 n (but 31) is neither d");
        for (int n = 0; n < 31; n++) {
            int a = (n + 1) % 31;
            dueOfChanging(due, 0, a << 10 | n << 5 | n);
        }
        dueOfChanging(due, 11, 2 << 10 | 3 << 5 | 4);
    }

    private static void pairChangedNIsNotA(Sentences due) {
        due.sentence("PAIR: with 1 and 3 n (but 31) is neither d nor a");
        for (int n = 0; n < 31; n++) {
            int d = (n + 1) % 31;
            dueOfChanging(due, 0, n << 10 | n << 5 | d);
        }
        dueOfChanging(due, 11, 4 << 10 | 3 << 5 | 2);
    }

    private static void pairChangedN31(Sentences due) {
        due.sentence("PAIR: with 1 and 3 n (but 31)");
        for (int other = 0; other < 31; other++) {
            dueOfChanging(due, 11, other << 10 | 31 << 5 | 31);
            dueOfChanging(due, 11, 31 << 10 | 31 << 5 | other);
        }
        due.kinds(11, 0xA880FFFF, 0xA980FFFF);
    }

    private static void pairUnchangedN(Sentences due) {
        due.sentence("PAIR: 2 n and the number (n may be d or a)");
        for (int n = 0; n < 32; n++) {
            int other = (n + 1) % 32;
            due.kinds(11, PAIR | CHANGES_NOT | other << 10 | n << 5 | n, PAIR | CHANGES_NOT | n << 10 | n << 5 | other);
            due.kinds(11, PAIR | CHANGES_NOT | LOADS | other << 10 | n << 5 | n);
            due.kinds(11, PAIR | CHANGES_NOT | LOADS | n << 10 | n << 5 | other);
        }
    }

    private static void pairLoadsTwo(Sentences due) {
        due.sentence("PAIR: loads with d not a");
        for (int d = 0; d < 32; d++) {
            int n = (d + 1) % 32;
            int registers = d << 10 | n << 5 | d;
            int[] ways = {CHANGES_BEHIND, CHANGES_NOT, CHANGES_BEFORE};
            for (int way : ways) {
                due.kinds(0, PAIR | way | LOADS | registers);
                due.kinds(11, PAIR | way | registers);
            }
        }
    }

    private static void dueOfChanging(Sentences due, int want, int registers) {
        due.kinds(want, PAIR | CHANGES_BEHIND | registers, PAIR | CHANGES_BEFORE | registers);
        due.kinds(want, PAIR | CHANGES_BEHIND | LOADS | registers, PAIR | CHANGES_BEFORE | LOADS | registers);
    }
}
