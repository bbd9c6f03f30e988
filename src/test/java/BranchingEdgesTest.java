/** Promise 2 at the edges that the terms name for kinds 12 to 21, and for what is no instruction. */
final class BranchingEdgesTest {
    public static void main(String[] args) {
        Sentences due = new Sentences("BranchingEdgesTest");
        branchForms(due);
        branchConditions(due);
        branchConditionForm(due);
        compareForm(due);
        testForm(due);
        branchToRegister(due);
        callForm(due);
        nothing(due);
        noInstruction(due);
        due.end();
    }

    private static void branchForms(Sentences due) {
        due.sentence("B FC000000 14000000 and BL FC000000 94000000");
        due.kinds(12, 0x14000000, 0x15FFFFFF, 0x16000000, 0x17FFFFFF);
        due.kinds(13, 0x94000000, 0x95FFFFFF, 0x96000000, 0x97FFFFFF);
        due.kinds(0, 0x13FFFFFF, 0x18000000, 0x93FFFFFF, 0x98000000, 0xD4FFFFFF);
    }

    private static void branchConditions(Sentences due) {
        due.sentence("B.cond: the condition in bits 0-3; Conditions are 0 .. 13 alone");
        for (int condition = 0; condition < 16; condition++) {
            due.kinds(condition <= 13 ? 14 : 0, 0x54000000 | condition, 0x54FFFFE0 | condition);
        }
    }

    private static void branchConditionForm(Sentences due) {
        due.sentence("B.cond FF000010 54000000");
        due.kinds(14, 0x54000000, 0x54FFFFED);
        due.kinds(0, 0x54000010, 0x54FFFFFD, 0x55000000, 0x56000000, 0x5C000000, 0x44000000);
    }

    private static void compareForm(Sentences due) {
        due.sentence("CBZ 7E000000 34000000: bit 24 CBNZ");
        due.kinds(15, 0x34000000, 0x34FFFFFF, 0x35000000, 0x35FFFFFF, 0xB4000000, 0xB4FFFFFF, 0xB5000000, 0xB5FFFFFF);
        due.kinds(0, 0x33FFFFFF, 0x24000000, 0x3C000000, 0x74000000, 0xF4000000);
    }

    private static void testForm(Sentences due) {
        due.sentence("TBZ 7E000000 36000000: bit 24 TBNZ; d's bit of number bits 19-23, and 32 more if bit 31");
        due.kinds(16, 0x36000000, 0x36F80000, 0x37000000, 0x37FFFFFF, 0xB6000000, 0xB6F80000, 0xB7000000, 0xB7FFFFFF);
        due.kinds(0, 0x26000000, 0x3E000000, 0x76000000, 0xF6000000);
    }

    private static void branchToRegister(Sentences due) {
        due.sentence("FFFFFC1F: BR D61F0000, BLR D63F0000, RET D65F0000, to n");
        for (int n = 0; n < 32; n++) {
            due.kinds(17, 0xD61F0000 | n << 5);
            due.kinds(18, 0xD63F0000 | n << 5);
            due.kinds(19, 0xD65F0000 | n << 5);
        }
        int[] forms = {0xD61F0000, 0xD63F0000, 0xD65F0000};
        for (int w : forms) {
            due.kinds(0, w | 0x00000001, w | 0x00000010, w | 0x00000400, w | 0x00008000, w ^ 0x00010000, w ^ 0x00100000);
        }
        due.kinds(0, 0xD67F0000, 0xD69F0000);
    }

    private static void callForm(Sentences due) {
        due.sentence("CALL FFE0001F D4000001");
        due.kinds(20, 0xD4000001, 0xD4000021, 0xD4100001, 0xD41FFFE1);
        due.kinds(0, 0xD4000000, 0xD4000002, 0xD4000003, 0xD4000005, 0xD4000009, 0xD4000011, 0xD4200001, 0xD4800001);
    }

    private static void nothing(Sentences due) {
        due.sentence("D503201F: nothing");
        due.kinds(21, 0xD503201F);
        // Bits 26 and 30 are left out: with one of them changed it is ADD by a number, or BL.
        for (int bit = 0; bit < 26; bit++) {
            due.kinds(0, 0xD503201F ^ 1 << bit);
        }
        due.kinds(0, 0xDD03201F, 0xC503201F, 0xF503201F, 0x5503201F);
    }

    private static void noInstruction(Sentences due) {
        due.sentence("0 no instruction");
        due.kinds(0, 0x00000000, 0x00000001, 0x7FFFFFFF, 0x80000000, 0xFFFFFFFF);
    }
}
