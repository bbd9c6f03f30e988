/** Promise 4 at its edges: the farthest words, and the word itself beyond them. */
final class GoingEdgesTest {
    public static void main(String[] args) {
        Sentences due = new Sentences("GoingEdgesTest");
        allElseAsItWas(due);
        farthestOf12And13(due);
        farthestOf14And15(due);
        farthestOf16(due);
        beyond12And13(due);
        beyond14And15(due);
        beyond16(due);
        multiplesOf4(due);
        noneOfTheseKinds(due);
        due.end();
    }

    private static void allElseAsItWas(Sentences due) {
        due.sentence("going: The word that goes so far instead (all else as it was)");
        due.going(0x17FFFFFF, 0, 0x14000000);
        due.going(0x14000000, -4, 0x17FFFFFF);
        due.going(0x97FFFFFF, 0, 0x94000000);
        due.going(0x94000000, -4, 0x97FFFFFF);
        due.going(0x54FFFFED, 0, 0x5400000D);
        due.going(0x54000000, -4, 0x54FFFFE0);
        due.going(0xB5FFFFFF, 0, 0xB500001F);
        due.going(0x34000000, -4, 0x34FFFFE0);
        due.going(0xB7FFFFFF, 0, 0xB7F8001F);
        due.going(0x36000000, -4, 0x3607FFE0);
        due.going(0xB6A80015, 4, 0xB6A80035);
    }

    private static void farthestOf12And13(Sentences due) {
        due.sentence("going: REACH of kinds 12 and 13: from -134217728 to 134217724");
        due.going(0x14000006, -134217728, 0x16000000);
        due.going(0x14000006, 134217724, 0x15FFFFFF);
        due.going(0x94000006, -134217728, 0x96000000);
        due.going(0x94000006, 134217724, 0x95FFFFFF);
    }

    private static void farthestOf14And15(Sentences due) {
        due.sentence("going: REACH of kinds 14 and 15: from -1048576 to 1048572");
        due.going(0x5400004D, -1048576, 0x5480000D);
        due.going(0x5400004D, 1048572, 0x547FFFED);
        due.going(0x34000043, -1048576, 0x34800003);
        due.going(0x34000043, 1048572, 0x347FFFE3);
        due.going(0xB5000043, -1048576, 0xB5800003);
        due.going(0xB5000043, 1048572, 0xB57FFFE3);
    }

    private static void farthestOf16(Sentences due) {
        due.sentence("going: REACH of kind 16: from -32768 to 32764");
        due.going(0x36680045, -32768, 0x366C0005);
        due.going(0x36680045, 32764, 0x366BFFE5);
        due.going(0xB7F80045, -32768, 0xB7FC0005);
        due.going(0xB7F80045, 32764, 0xB7FBFFE5);
    }

    private static void beyond12And13(Sentences due) {
        due.sentence("going: the word itself if that is not within reach (kinds 12 and 13)");
        staysOf(due, 0x14000006, -134217732, 134217728);
        staysOf(due, 0x94000006, -134217732, 134217728);
        staysOf(due, 0x14000006, Integer.MIN_VALUE, Integer.MAX_VALUE - 3);
        staysOf(due, 0x94000006, Integer.MIN_VALUE, Integer.MAX_VALUE - 3);
    }

    private static void beyond14And15(Sentences due) {
        due.sentence("going: the word itself if that is not within reach (kinds 14 and 15)");
        int[] words = {0x5400004D, 0x34000043, 0x35000043, 0xB4000043, 0xB5000043};
        for (int w : words) {
            staysOf(due, w, -1048580, 1048576);
            staysOf(due, w, -134217728, 134217724);
            staysOf(due, w, Integer.MIN_VALUE, Integer.MAX_VALUE - 3);
        }
    }

    private static void beyond16(Sentences due) {
        due.sentence("going: the word itself if that is not within reach (kind 16)");
        int[] words = {0x36680045, 0x37680045, 0xB6680045, 0xB7F80045};
        for (int w : words) {
            staysOf(due, w, -32772, 32768);
            staysOf(due, w, -1048576, 1048572);
            staysOf(due, w, Integer.MIN_VALUE, Integer.MAX_VALUE - 3);
        }
    }

    private static void multiplesOf4(Sentences due) {
        due.sentence("going: REACH: multiples of 4");
        int[] words = {0x14000006, 0x94000006, 0x5400004D, 0xB4000043, 0x36680045};
        for (int w : words) {
            for (int by = -7; by <= 7; by++) {
                if (by != -4 && by != 0 && by != 4) {
                    due.going(w, by, w);
                }
            }
            staysOf(due, w, -32767, 32763);
            staysOf(due, w, Integer.MIN_VALUE + 1, Integer.MAX_VALUE);
        }
    }

    private static void noneOfTheseKinds(Sentences due) {
        due.sentence("going: the word itself if it is none of these kinds");
        for (int kind = 1; kind <= Words.KINDS; kind++) {
            if (kind >= 12 && kind <= 16) {
                continue;
            }
            for (int w : Words.samples(kind)) {
                staysOf(due, w, 4, -4);
            }
        }
        int[] noInstructions = {0x00000000, 0xFFFFFFFF, 0x5400000E, 0x5400000F, 0x54000010, 0x74000000, 0x76000000};
        for (int w : noInstructions) {
            staysOf(due, w, 4, -4);
        }
    }

    private static void staysOf(Sentences due, int w, int by, int byToo) {
        due.going(w, by, w);
        due.going(w, byToo, w);
    }
}
