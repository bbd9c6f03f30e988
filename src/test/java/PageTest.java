/** Promise 7: what ADRP at an address makes. */
final class PageTest {
    private static final long[] ADDRESSES = {0, 4, 4092, 4096, 65536, 65540, 1L << 40, -4, Long.MIN_VALUE, Long.MAX_VALUE - 3};

    public static void main(String[] args) {
        Checks checks = new Checks("PageTest");
        Fresh forms = new Fresh();
        check(checks, forms, 0x90000001, 65552L, 65536L);
        check(checks, forms, 0x90000001, 0L, 0L);
        check(checks, forms, 0x90000001, 4092L, 0L);
        check(checks, forms, 0x90000001, 4096L, 4096L);
        check(checks, forms, 0x90000001, 8191L, 4096L);
        check(checks, forms, 0x90000001, -4L, -4096L);
        check(checks, forms, 0xB0000001, 65552L, 69632L);
        check(checks, forms, 0xD0000001, 65552L, 73728L);
        check(checks, forms, 0xF0000001, 65552L, 77824L);
        check(checks, forms, 0x90000021, 65552L, 81920L);
        check(checks, forms, 0xF0FFFFFF, 65552L, 61440L);
        check(checks, forms, 0xF0FFFFE0, 0L, -4096L);
        check(checks, forms, 0xB0FFFFE0, 65536L, 53248L);
        check(checks, forms, 0xF07FFFE0, 0L, 4294963200L);
        check(checks, forms, 0x90800000, 0L, -4294967296L);
        check(checks, forms, 0x90800000, 4294967300L, 0L);
        check(checks, forms, 0xF07FFFFF, 0x123456789ABCDEF0L, 0x123456789ABCD000L + 4294963200L);
        check(checks, forms, 0xB0000000, Long.MAX_VALUE - 3, Long.MIN_VALUE);
        check(checks, forms, 0xF0FFFFE0, Long.MIN_VALUE, 0x7FFFFFFFFFFFF000L);
        check(checks, forms, 0x10000001, 65552L, -1L);
        check(checks, forms, 0x70FFFFFF, 65552L, -1L);
        for (int w : Words.all()) {
            for (long address : ADDRESSES) {
                if (Words.kindDue(w) != 5) {
                    check(checks, forms, w, address, -1L);
                }
            }
        }
        checks.end();
    }

    private static void check(Checks checks, Fresh forms, int w, long address, long want) {
        checks.due("page(" + Checks.hex(w) + ", " + address + ")", forms.next().page(w, address), want);
    }
}
