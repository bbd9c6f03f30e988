/** Promise 6: a word turned over. */
final class TurnedTest {
    public static void main(String[] args) {
        Checks checks = new Checks("TurnedTest");
        Fresh forms = new Fresh();
        int[][] rows = {
            {0x54FFFF6B, 0x54FFFF6A}, {0x54FFFF6A, 0x54FFFF6B}, {0x54000040, 0x54000041}, {0x5400000C, 0x5400000D},
            {0x5400000D, 0x5400000C}, {0x5400000E, 0x5400000E}, {0x5400000F, 0x5400000F}, {0x54000011, 0x54000011},
            {0x340000E3, 0x350000E3}, {0x350000E3, 0x340000E3}, {0xB40000E3, 0xB50000E3}, {0xB5FFFFFF, 0xB4FFFFFF},
            {0x36680005, 0x37680005}, {0x37680005, 0x36680005}, {0xB6FFFFFF, 0xB7FFFFFF}, {0xB7F80005, 0xB6F80005},
            {0x14000006, 0x14000006}, {0x94000006, 0x94000006}, {0xD65F03C0, 0xD65F03C0}, {0x1A83D441, 0x1A83D441},
        };
        for (int[] row : rows) {
            checks.dueWord("turned(" + Checks.hex(row[0]) + ")", forms.next().turned(row[0]), row[1]);
        }
        for (int w : Words.all()) {
            int kind = Words.kindDue(w);
            int flip = kind == 14 ? 0x00000001 : kind == 15 || kind == 16 ? 0x01000000 : 0;
            checks.dueWord("turned(" + Checks.hex(w) + ")", forms.next().turned(w), w ^ flip);
            checks.due("kind(turned(" + Checks.hex(w) + "))", forms.next().kind(forms.next().turned(w)), kind);
            checks.dueWord("turned twice, " + Checks.hex(w), forms.next().turned(forms.next().turned(w)), w);
        }
        checks.end();
    }
}
