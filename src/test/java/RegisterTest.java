/** Promise 10: the registers that a word has fields for. */
final class RegisterTest {
    /** Of kind i + 1, the letters of the fields it has. */
    private static final String[] HAS = {
        "dn", "dnm", "dnm", "d", "d", "dnma", "dnm", "dnm", "dn", "dnm", "dna",
        "", "", "", "d", "d", "n", "n", "n", "", "",
    };
    private static final int[] NO_FIELDS = {-1, 4, 5, 31, 32, 256, Integer.MIN_VALUE, Integer.MAX_VALUE, -4, 0x10000};

    public static void main(String[] args) {
        Checks checks = new Checks("RegisterTest");
        Fresh forms = new Fresh();
        checkRows(checks, forms);
        for (int w : Words.all()) {
            checkWord(checks, forms, w, Words.kindDue(w));
        }
        checks.end();
    }

    private static void checkRows(Checks checks, Fresh forms) {
        int[][] rows = {
            {0x9B0F3443, 3, 2, 15, 13}, {0x9B1FFFFF, 31, 31, 31, 31}, {0x9B000000, 0, 0, 0, 0},
            {0xA9BF7BFD, 29, 31, -1, 30}, {0xA8810861, 1, 3, -1, 2}, {0x8B1502B3, 19, 21, 21, -1},
            {0x910003FD, 29, 31, -1, -1}, {0xD29FFFE7, 7, -1, -1, -1}, {0xF0FFFFFF, 31, -1, -1, -1},
            {0x9AD52AB3, 19, 21, 21, -1}, {0x1A95C2B3, 19, 21, 21, -1}, {0xF9400041, 1, 2, -1, -1},
            {0xF8237882, 2, 4, 3, -1}, {0x14000006, -1, -1, -1, -1}, {0x97FFFFFB, -1, -1, -1, -1},
            {0x54FFFF6B, -1, -1, -1, -1}, {0xB40000E3, 3, -1, -1, -1}, {0x36680005, 5, -1, -1, -1},
            {0xD61F0120, -1, 9, -1, -1}, {0xD63F0140, -1, 10, -1, -1}, {0xD65F03C0, -1, 30, -1, -1},
            {0xD41FFFE1, -1, -1, -1, -1}, {0xD503201F, -1, -1, -1, -1}, {0xFFFFFFFF, -1, -1, -1, -1},
            {0x8A1502B3, 19, 21, 21, -1},
        };
        for (int[] row : rows) {
            for (int what = 0; what < 4; what++) {
                check(checks, forms, row[0], what, row[what + 1]);
            }
        }
    }

    private static void checkWord(Checks checks, Fresh forms, int w, int kind) {
        String has = kind == 0 ? "" : HAS[kind - 1];
        check(checks, forms, w, 0, has.contains("d") ? w & 31 : -1);
        check(checks, forms, w, 1, has.contains("n") ? w >> 5 & 31 : -1);
        check(checks, forms, w, 2, has.contains("m") ? w >> 16 & 31 : -1);
        check(checks, forms, w, 3, has.contains("a") ? w >> 10 & 31 : -1);
        for (int what : NO_FIELDS) {
            check(checks, forms, w, what, -1);
        }
    }

    private static void check(Checks checks, Fresh forms, int w, int what, int want) {
        checks.due("register(" + Checks.hex(w) + ", " + what + ")", forms.next().register(w, what), want);
    }
}
