/** Promise 10 at its edges. */
final class RegisterEdgesTest {
    public static void main(String[] args) {
        Sentences due = new Sentences("RegisterEdgesTest");
        dueOfKinds(due, "register: 0 d (d of kinds 1 to 11, 15, 16)", 0, 1, 2, 3, 4, 5, 6, 7, 8, 9, 10, 11, 15, 16);
        dueOfKinds(due, "register: 1 n (n of 1 to 3, 6 to 11, 17 to 19)", 1, 1, 2, 3, 6, 7, 8, 9, 10, 11, 17, 18, 19);
        dueOfKinds(due, "register: 2 m (m of 2, 3, 6 to 8, 10)", 2, 2, 3, 6, 7, 8, 10);
        dueOfKinds(due, "register: 3 a (a of 6 and 11)", 3, 6, 11);
        placesOfTheFields(due);
        noneOfNoInstruction(due);
        noneOfAnotherWhat(due);
        due.end();
    }

    private static void dueOfKinds(Sentences due, String sentence, int what, int... kindsWithIt) {
        due.sentence(sentence);
        for (int kind = 1; kind <= Words.KINDS; kind++) {
            boolean hasIt = false;
            for (int kindWithIt : kindsWithIt) {
                hasIt |= kind == kindWithIt;
            }
            due.register(Words.least(kind), what, hasIt ? 0 : -1);
            due.register(Words.greatest(kind), what, hasIt ? 31 : -1);
        }
    }

    private static void placesOfTheFields(Sentences due) {
        due.sentence("register: d n m a are bits 0-4, 5-9, 16-20, 10-14");
        // Of MADD one field is 31 and all other bits are 0, then the other way round.
        int[] onlyOne = {0x1B00001F, 0x1B0003E0, 0x1B1F0000, 0x1B007C00};
        int[] allButOne = {0x9B1FFFE0, 0x9B1FFC1F, 0x9B00FFFF, 0x9B1F83FF};
        for (int field = 0; field < 4; field++) {
            for (int what = 0; what < 4; what++) {
                due.register(onlyOne[field], what, what == field ? 31 : 0);
                due.register(allButOne[field], what, what == field ? 0 : 31);
            }
        }
    }

    private static void noneOfNoInstruction(Sentences due) {
        due.sentence("register: -1 if it has none (what is no instruction)");
        int[] words = {0x00000000, 0xFFFFFFFF, 0x0BC00000, 0x1A80E000, 0x79000000, 0xA8000400, 0x32800000, 0xD67F0000};
        for (int w : words) {
            for (int what = 0; what < 4; what++) {
                due.register(w, what, -1);
            }
        }
    }

    private static void noneOfAnotherWhat(Sentences due) {
        due.sentence("register: -1 if it has none (what is not 0 to 3)");
        int[] whats = {-1, 4, -2, 5, 32, -32, 256, Integer.MIN_VALUE, Integer.MAX_VALUE};
        for (int what : whats) {
            for (int kind = 1; kind <= Words.KINDS; kind++) {
                due.register(Words.greatest(kind), what, -1);
            }
        }
    }
}
