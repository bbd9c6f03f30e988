/**
 * Promises 2 to 10 on words that an assembler made from texts (LLVM's, for A64, whose forms the document's are), so that
 * they do not hang on how this project reads the document's masks. No assembler is needed to run this.
 */
final class AssembledTest {
    private static final int NO = -1;

    private record Instruction(String text, int word, int kind, int d, int n, int m, int a, int by) {
    }

    private static final Instruction[] INSTRUCTIONS = {
        new Instruction("add x1, x2, #3", 0x91000C41, 1, 1, 2, NO, NO, 1),
        new Instruction("subs w30, w29, #4095, lsl #12", 0x717FFFBE, 1, 30, 29, NO, NO, 1),
        new Instruction("sub sp, sp, #16", 0xD10043FF, 1, 31, 31, NO, NO, 1),
        new Instruction("add x4, x5, x6", 0x8B0600A4, 2, 4, 5, 6, NO, 1),
        new Instruction("subs w7, w8, w9, asr #31", 0x6B897D07, 2, 7, 8, 9, NO, 1),
        new Instruction("adds x10, x11, x12, lsr #63", 0xAB4CFD6A, 2, 10, 11, 12, NO, 1),
        new Instruction("and x13, x14, x15", 0x8A0F01CD, 3, 13, 14, 15, NO, 1),
        new Instruction("orr w16, w17, w18, ror #31", 0x2AD27E30, 3, 16, 17, 18, NO, 1),
        new Instruction("eon x19, x20, x21, lsl #63", 0xCA35FE93, 3, 19, 20, 21, NO, 1),
        new Instruction("bics w22, w23, w24", 0x6A3802F6, 3, 22, 23, 24, NO, 1),
        new Instruction("movz x25, #65535, lsl #48", 0xD2FFFFF9, 4, 25, NO, NO, NO, 1),
        new Instruction("movn w26, #1, lsl #16", 0x12A0003A, 4, 26, NO, NO, NO, 1),
        new Instruction("movk x27, #2, lsl #32", 0xF2C0005B, 4, 27, NO, NO, NO, 1),
        new Instruction("adrp x28, #4096", 0xB000001C, 5, 28, NO, NO, NO, 1),
        new Instruction("adrp x29, #-4096", 0xF0FFFFFD, 5, 29, NO, NO, NO, 1),
        new Instruction("adrp x30, #4294963200", 0xF07FFFFE, 5, 30, NO, NO, NO, 1),
        new Instruction("adrp x0, #-4294967296", 0x90800000, 5, 0, NO, NO, NO, 1),
        new Instruction("madd x3, x2, x15, x13", 0x9B0F3443, 6, 3, 2, 15, 13, 1),
        new Instruction("msub w4, w5, w6, w7", 0x1B069CA4, 6, 4, 5, 6, 7, 1),
        new Instruction("udiv x8, x9, x10", 0x9ACA0928, 7, 8, 9, 10, NO, 1),
        new Instruction("sdiv w11, w12, w13", 0x1ACD0D8B, 7, 11, 12, 13, NO, 1),
        new Instruction("lslv x14, x15, x16", 0x9AD021EE, 7, 14, 15, 16, NO, 1),
        new Instruction("lsrv w17, w18, w19", 0x1AD32651, 7, 17, 18, 19, NO, 1),
        new Instruction("asrv x20, x21, x22", 0x9AD62AB4, 7, 20, 21, 22, NO, 1),
        new Instruction("csel x23, x24, x25, eq", 0x9A990317, 8, 23, 24, 25, NO, 1),
        new Instruction("csinc w26, w27, w28, le", 0x1A9CD77A, 8, 26, 27, 28, NO, 1),
        new Instruction("strb w1, [x2]", 0x39000041, 9, 1, 2, NO, NO, 1),
        new Instruction("ldrb w3, [x4, #4095]", 0x397FFC83, 9, 3, 4, NO, NO, 1),
        new Instruction("str w5, [x6, #4]", 0xB90004C5, 9, 5, 6, NO, NO, 1),
        new Instruction("ldr x7, [sp, #32760]", 0xF97FFFE7, 9, 7, 31, NO, NO, 1),
        new Instruction("ldrsw x8, [x9, #8]", 0xB9800928, 9, 8, 9, NO, NO, 1),
        new Instruction("strb w10, [x11, x12]", 0x382C696A, 10, 10, 11, 12, NO, 1),
        new Instruction("ldr w13, [x14, x15, lsl #2]", 0xB86F79CD, 10, 13, 14, 15, NO, 1),
        new Instruction("str x16, [x17, x18, lsl #3]", 0xF8327A30, 10, 16, 17, 18, NO, 1),
        new Instruction("ldrsw x19, [x20, x21]", 0xB8B56A93, 10, 19, 20, 21, NO, 1),
        new Instruction("stp x29, x30, [sp, #-16]!", 0xA9BF7BFD, 11, 29, 31, NO, 30, 1),
        new Instruction("ldp x22, x23, [x24], #504", 0xA8DFDF16, 11, 22, 24, NO, 23, 1),
        new Instruction("stp x25, x25, [x25, #-512]", 0xA9206739, 11, 25, 25, NO, 25, 1),
        new Instruction("ldp x1, x2, [x1]", 0xA9400821, 11, 1, 1, NO, 2, 1),
        new Instruction("b #134217724", 0x15FFFFFF, 12, NO, NO, NO, NO, 134217724),
        new Instruction("b #-134217728", 0x16000000, 12, NO, NO, NO, NO, -134217728),
        new Instruction("bl #134217724", 0x95FFFFFF, 13, NO, NO, NO, NO, 134217724),
        new Instruction("bl #-4", 0x97FFFFFF, 13, NO, NO, NO, NO, -4),
        new Instruction("b.eq #1048572", 0x547FFFE0, 14, NO, NO, NO, NO, 1048572),
        new Instruction("b.le #-1048576", 0x5480000D, 14, NO, NO, NO, NO, -1048576),
        new Instruction("cbz w1, #1048572", 0x347FFFE1, 15, 1, NO, NO, NO, 1048572),
        new Instruction("cbnz x2, #-1048576", 0xB5800002, 15, 2, NO, NO, NO, -1048576),
        new Instruction("tbz w3, #31, #32764", 0x36FBFFE3, 16, 3, NO, NO, NO, 32764),
        new Instruction("tbnz x4, #63, #-32768", 0xB7FC0004, 16, 4, NO, NO, NO, -32768),
        new Instruction("tbz x5, #32, #4", 0xB6000025, 16, 5, NO, NO, NO, 4),
        new Instruction("br x6", 0xD61F00C0, 17, NO, 6, NO, NO, 1),
        new Instruction("blr x7", 0xD63F00E0, 18, NO, 7, NO, NO, 1),
        new Instruction("ret", 0xD65F03C0, 19, NO, 30, NO, NO, 1),
        new Instruction("ret x8", 0xD65F0100, 19, NO, 8, NO, NO, 1),
        new Instruction("svc #0", 0xD4000001, 20, NO, NO, NO, NO, 1),
        new Instruction("svc #65535", 0xD41FFFE1, 20, NO, NO, NO, NO, 1),
        new Instruction("nop", 0xD503201F, 21, NO, NO, NO, NO, 1),
    };

    /** Words that are one another turned over. */
    private static final int[][] TURNED = {
        {0x54000040, 0x54000041}, // b.eq #8 and b.ne #8
        {0x54000042, 0x54000043}, // b.hs #8 and b.lo #8
        {0x54000044, 0x54000045}, // b.mi #8 and b.pl #8
        {0x54000046, 0x54000047}, // b.vs #8 and b.vc #8
        {0x54000048, 0x54000049}, // b.hi #8 and b.ls #8
        {0x5400004A, 0x5400004B}, // b.ge #8 and b.lt #8
        {0x5400004C, 0x5400004D}, // b.gt #8 and b.le #8
        {0x34FFFFC9, 0x35FFFFC9}, // cbz w9, #-8 and cbnz w9, #-8
        {0xB4FFFFC9, 0xB5FFFFC9}, // cbz x9, #-8 and cbnz x9, #-8
        {0x361FFFC9, 0x371FFFC9}, // tbz w9, #3, #-8 and tbnz w9, #3, #-8
        {0xB61FFFC9, 0xB71FFFC9}, // tbz x9, #35, #-8 and tbnz x9, #35, #-8
    };

    /** A word, how far it shall go instead, and the word that does. */
    private static final int[][] GOING = {
        {0x14000002, -134217728, 0x16000000}, // b #8 and b #-134217728
        {0x94000002, 134217724, 0x95FFFFFF}, // bl #8 and bl #134217724
        {0x5400004C, -1048576, 0x5480000C}, // b.gt #8 and b.gt #-1048576
        {0xB500004A, 1048572, 0xB57FFFEA}, // cbnz x10, #8 and cbnz x10, #1048572
        {0xB640004B, -32768, 0xB644000B}, // tbz x11, #40, #8 and tbz x11, #40, #-32768
        {0x372FFFEC, 32764, 0x372BFFEC}, // tbnz w12, #5, #-4 and tbnz w12, #5, #32764
    };

    /** Instructions of A64 that the document does not have. */
    private static final int[] LEFT_OUT = {
        0x10000021, // adr x1, #4
        0x8B234041, // add x1, x2, w3, uxtw
        0x9AC32C41, // ror x1, x2, x3
        0x1AC32C41, // rorv w1, w2, w3
        0x92400041, // and x1, x2, #1
        0x93C31041, // extr x1, x2, x3, #4
        0xDA830041, // csinv x1, x2, x3, eq
        0x5A830441, // csneg w1, w2, w3, eq
        0x9A83E041, // csel x1, x2, x3, al
        0x1A83F441, // csinc w1, w2, w3, nv
        0x79400041, // ldrh w1, [x2]
        0x78236841, // strh w1, [x2, x3]
        0x39800041, // ldrsb x1, [x2]
        0x38E36841, // ldrsb w1, [x2, x3]
        0x79800041, // ldrsh x1, [x2]
        0xF9800020, // prfm pldl1keep, [x1]
        0xFD400041, // ldr d1, [x2]
        0xF8634841, // ldr x1, [x2, w3, uxtw]
        0xF8408441, // ldr x1, [x2], #8
        0xF8401041, // ldur x1, [x2, #1]
        0x58000041, // ldr x1, #8
        0x29000861, // stp w1, w2, [x3]
        0x69400861, // ldpsw x1, x2, [x3]
        0xA8000861, // stnp x1, x2, [x3]
        0x6D400861, // ldp d1, d2, [x3]
        0x9B231041, // smaddl x1, w2, w3, x4
        0x9BC37C41, // umulh x1, x2, x3
        0x9A030041, // adc x1, x2, x3
        0xFA420020, // ccmp x1, x2, #0, eq
        0xDAC01041, // clz x1, x2
        0x5400004E, // b.al #8
        0x5400004F, // b.nv #8
        0xD4000002, // hvc #0
        0xD4000003, // smc #0
        0xD4200000, // brk #0
        0xD4400000, // hlt #0
        0xD503203F, // yield
        0xD503207F, // wfi
        0xD5033FDF, // isb
        0xD5033FBF, // dmb sy
        0xD69F03E0, // eret
        0xD53B4200, // mrs x0, nzcv
    };

    public static void main(String[] args) {
        Checks checks = new Checks("AssembledTest");
        Fresh forms = new Fresh();
        for (Instruction instruction : INSTRUCTIONS) {
            check(checks, forms, instruction);
        }
        for (int w : LEFT_OUT) {
            check(checks, forms, new Instruction("left out", w, 0, NO, NO, NO, NO, 1));
        }
        checkTurned(checks, forms);
        checkGoing(checks, forms);
        checkPages(checks, forms);
        checks.end();
    }

    private static void check(Checks checks, Fresh forms, Instruction due) {
        int w = due.word();
        String text = due.text() + " (" + Checks.hex(w) + "): ";
        checks.due(text + "kind", forms.next().kind(w), due.kind());
        checks.due(text + "by", forms.next().by(w), due.by());
        checks.due(text + "reaches that", forms.next().reaches(w, due.by()), due.by() != 1);
        checks.due(text + "d", forms.next().register(w, 0), due.d());
        checks.due(text + "n", forms.next().register(w, 1), due.n());
        checks.due(text + "m", forms.next().register(w, 2), due.m());
        checks.due(text + "a", forms.next().register(w, 3), due.a());
        boolean ends = due.text().matches("(b #|br |ret).*|left out");
        checks.due(text + "goesOn", forms.next().goesOn(w), !ends);
    }

    private static void checkTurned(Checks checks, Fresh forms) {
        for (int[] pair : TURNED) {
            checks.dueWord("turned(" + Checks.hex(pair[0]) + ")", forms.next().turned(pair[0]), pair[1]);
            checks.dueWord("turned(" + Checks.hex(pair[1]) + ")", forms.next().turned(pair[1]), pair[0]);
        }
    }

    private static void checkGoing(Checks checks, Fresh forms) {
        for (int[] row : GOING) {
            checks.dueWord("going(" + Checks.hex(row[0]) + ", " + row[1] + ")", forms.next().going(row[0], row[1]), row[2]);
        }
    }

    private static void checkPages(Checks checks, Fresh forms) {
        dueAdrp(checks, forms, 0xB000001C, 4096L);
        dueAdrp(checks, forms, 0xF0FFFFFD, -4096L);
        dueAdrp(checks, forms, 0xF07FFFFE, 4294963200L);
        dueAdrp(checks, forms, 0x90800000, -4294967296L);
    }

    // An ADRP that makes the page so many bytes from that of its address.
    private static void dueAdrp(Checks checks, Fresh forms, int w, long bytes) {
        long start = 1L << 40;
        checks.due("page(" + Checks.hex(w) + ")", forms.next().page(w, start + 4092), start + bytes);
        int other = 0x90000000 | w & 31;
        checks.dueWord("paging to " + bytes, forms.next().paging(other, start + 4092, start + bytes + 4095), w);
    }
}
