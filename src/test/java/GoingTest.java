/** Promise 4: the word that goes so far instead. */
final class GoingTest {
    public static void main(String[] args) {
        Checks checks = new Checks("GoingTest");
        Fresh forms = new Fresh();
        checkRows(checks, forms);
        for (int w : Words.all()) {
            for (long by : Reaches.DISTANCES) {
                check(checks, forms, w, (int) by);
            }
        }
        checks.end();
    }

    private static void checkRows(Checks checks, Fresh forms) {
        int[][] rows = {
            {0x14000006, 16, 0x14000004}, {0x14000006, -4, 0x17FFFFFF}, {0x17FFFFFF, 0, 0x14000000},
            {0x14000000, 134217724, 0x15FFFFFF}, {0x14000000, -134217728, 0x16000000},
            {0x14000006, 134217728, 0x14000006}, {0x14000006, -134217732, 0x14000006}, {0x14000006, 2, 0x14000006},
            {0x97FFFFFB, -32768, 0x97FFE000}, {0x94000000, -134217728, 0x96000000},
            {0x54FFFF6B, 16, 0x5400008B}, {0x5400000D, 1048572, 0x547FFFED}, {0x5400000D, -1048576, 0x5480000D},
            {0x5400002B, 1048576, 0x5400002B}, {0x5400002B, -1048580, 0x5400002B},
            {0xB40000E3, 1048572, 0xB47FFFE3}, {0x35FFFFFF, 0, 0x3500001F}, {0x35FFFFFF, 1, 0x35FFFFFF},
            {0x36680005, -4, 0x366FFFE5}, {0xB7F80005, 32764, 0xB7FBFFE5}, {0xB7F80005, -32768, 0xB7FC0005},
            {0xB7FFFFFF, 0, 0xB7F8001F}, {0x36680005, 32768, 0x36680005}, {0x36680005, -32772, 0x36680005},
            {0x5400002E, 4, 0x5400002E}, {0xD65F03C0, 4, 0xD65F03C0}, {0, 4, 0},
        };
        for (int[] row : rows) {
            checks.dueWord("going(" + Checks.hex(row[0]) + ", " + row[1] + ")", forms.next().going(row[0], row[1]), row[2]);
        }
    }

    private static void check(Checks checks, Fresh forms, int w, int by) {
        String call = "going(" + Checks.hex(w) + ", " + by + ")";
        int kind = Words.kindDue(w);
        int got = forms.next().going(w, by);
        if (!Reaches.reachDue(kind, by)) {
            checks.dueWord(call, got, w);
            return;
        }
        checks.due(call + " keeps its kind", forms.next().kind(got), kind);
        checks.due(call + " goes so far", forms.next().by(got), by);
        checks.dueWord(call + " keeps all else", got & elseMask(kind), w & elseMask(kind));
        checks.dueWord(call + " and back", forms.next().going(got, forms.next().by(w)), w);
    }

    private static int elseMask(int kind) {
        if (kind <= 13) {
            return 0xFC000000;
        }
        return kind == 16 ? 0xFFF8001F : 0xFF00001F;
    }
}
