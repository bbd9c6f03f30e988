/** Promise 8: the ADRP that makes the target's page. */
final class PagingTest {
    private static final long PAGE = 4096;
    private static final long[] ADDRESSES = {0, 4, 4092, 65540, 1L << 40, (1L << 40) + 4092, -4, -4096, -(1L << 50)};
    private static final long[] PAGES = {
        0, 1, 2, 3, 4, 5, 7, 1000, 524287, 524288, 1048572, 1048574, 1048575, 1048576, 1048577, 2097152, 1L << 32, 1L << 40,
        -1, -2, -3, -4, -5, -1000, -524288, -524289, -1048574, -1048575, -1048576, -1048577, -2097152, -(1L << 32), -(1L << 40),
    };
    private static final int[] ADRPS = {0x90000001, 0xF0FFFFFF, 0xB0000002, 0x90800003, 0xF07FFFFE};

    public static void main(String[] args) {
        Checks checks = new Checks("PagingTest");
        Fresh forms = new Fresh();
        checkRows(checks, forms);
        for (int w : ADRPS) {
            for (long address : ADDRESSES) {
                for (long pages : PAGES) {
                    checkPages(checks, forms, w, address, pages);
                }
            }
        }
        for (int w : Words.all()) {
            if (Words.kindDue(w) != 5) {
                check(checks, forms, w, 65540L, 524365L, w);
            }
        }
        checks.end();
    }

    private static void checkRows(Checks checks, Fresh forms) {
        check(checks, forms, 0x90000001, 65540L, 524365L, 0x90000381);
        check(checks, forms, 0x90000001, 65540L, 65536L, 0x90000001);
        check(checks, forms, 0xF0FFFFFF, 65540L, 69631L, 0x9000001F);
        check(checks, forms, 0x90000001, 65540L, 69632L, 0xB0000001);
        check(checks, forms, 0x90000001, 65540L, 65535L, 0xF0FFFFE1);
        check(checks, forms, 0x90000001, 65540L, 77L, 0x90FFFF81);
        check(checks, forms, 0x90000001, 0L, 4294967295L, 0xF07FFFE1);
        check(checks, forms, 0x90000001, 4095L, 4294967295L, 0xF07FFFE1);
        check(checks, forms, 0xB0000001, 4095L, 4294967296L, 0xB0000001);
        check(checks, forms, 0x90000001, 4294967296L, 0L, 0x90800001);
        check(checks, forms, 0x90000001, 4294971391L, 0L, 0x90800001);
        check(checks, forms, 0xB0000001, 4294971392L, 4095L, 0xB0000001);
        check(checks, forms, 0xB0000001, 0L, Long.MAX_VALUE, 0xB0000001);
        check(checks, forms, 0xB0000001, 0L, Long.MIN_VALUE, 0xB0000001);
        check(checks, forms, 0xB0000001, Long.MIN_VALUE, Long.MIN_VALUE, 0x90000001);
        check(checks, forms, 0xB0000001, Long.MAX_VALUE, Long.MAX_VALUE, 0x90000001);
        // Pages at the two ends of the longs are as far apart as can be.
        check(checks, forms, 0xD0000001, Long.MAX_VALUE - 3, Long.MIN_VALUE, 0xD0000001);
        check(checks, forms, 0xD0000001, Long.MIN_VALUE, Long.MAX_VALUE, 0xD0000001);
        check(checks, forms, 0x10000001, 65540L, 524365L, 0x10000001);
    }

    private static void checkPages(Checks checks, Fresh forms, int w, long address, long pages) {
        long start = Math.floorDiv(address, PAGE) * PAGE + pages * PAGE;
        for (long above = 0; above < PAGE; above += 1365) {
            long target = start + above;
            int got = forms.next().paging(w, address, target);
            String call = "paging(" + Checks.hex(w) + ", " + address + ", " + target + ")";
            if (pages >= 1048576 || pages < -1048576) {
                checks.dueWord(call, got, w);
            } else {
                checks.due(call + " makes", forms.next().page(got, address), start);
                checks.due(call + " is ADRP of the same register", got & 0x9F00001F, w & 0x9F00001F);
            }
        }
    }

    private static void check(Checks checks, Fresh forms, int w, long address, long target, int want) {
        checks.dueWord("paging(" + Checks.hex(w) + ", " + address + ", " + target + ")",
            forms.next().paging(w, address, target), want);
    }
}
