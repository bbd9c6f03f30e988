/** Promise 3: how far a word goes from itself. */
final class ByTest {
    public static void main(String[] args) {
        Checks checks = new Checks("ByTest");
        Fresh forms = new Fresh();
        int[][] rows = {
            {0x14000000, 0}, {0x14000001, 4}, {0x14000006, 24}, {0x17FFFFFF, -4}, {0x17FFFFFB, -20},
            {0x15FFFFFF, 134217724}, {0x16000000, -134217728}, {0x15555555, 89478484}, {0x16AAAAAA, -89478488},
            {0x94000000, 0}, {0x97FFFFFB, -20}, {0x95FFFFFF, 134217724}, {0x96000000, -134217728},
            {0x54000000, 0}, {0x54000020, 4}, {0x54FFFF6B, -20}, {0x547FFFED, 1048572}, {0x5480000C, -1048576},
            {0xB40000E3, 28}, {0x34000000, 0}, {0x34FFFFFF, -4}, {0xB57FFFFF, 1048572}, {0x35800002, -1048576},
            {0x36000000, 0}, {0x36680005, 0}, {0xB7F80005, 0}, {0x36000020, 4}, {0x3707FFFF, -4},
            {0x3703FFFF, 32764}, {0xB6040002, -32768}, {0xB7FFFFFF, -4}, {0x36FBFFE0, 32764},
            {0x5400002E, 1}, {0x5400003F, 1}, {0xD65F03C0, 1}, {0xD61F0120, 1}, {0xD63F0120, 1},
        };
        for (int[] row : rows) {
            checks.due("by(" + Checks.hex(row[0]) + ")", forms.next().by(row[0]), row[1]);
        }
        for (int w : Words.all()) {
            int kind = Words.kindDue(w);
            if (kind < 12 || kind > 16) {
                checks.due("by(" + Checks.hex(w) + ")", forms.next().by(w), 1);
            } else {
                checks.due("by(" + Checks.hex(w) + ") is of 4", forms.next().by(w) % 4, 0);
            }
        }
        checks.end();
    }
}
