/** Promise 9 at its edges. */
final class GoesOnEdgesTest {
    public static void main(String[] args) {
        Sentences due = new Sentences("GoesOnEdgesTest");
        notBehind12(due);
        notBehind17(due);
        notBehind19(due);
        notBehindNoInstruction(due);
        behindTheOthers(due);
        due.end();
    }

    private static void notBehind12(Sentences due) {
        due.sentence("goesOn: not behind kind 12");
        due.goesOn(false, 0x14000000, 0x14000001, 0x15FFFFFF, 0x16000000, 0x17FFFFFF);
    }

    private static void notBehind17(Sentences due) {
        due.sentence("goesOn: not behind kind 17");
        due.goesOn(false, 0xD61F0000, 0xD61F0120, 0xD61F03E0);
    }

    private static void notBehind19(Sentences due) {
        due.sentence("goesOn: not behind kind 19");
        due.goesOn(false, 0xD65F0000, 0xD65F03C0, 0xD65F03E0);
    }

    private static void notBehindNoInstruction(Sentences due) {
        due.sentence("goesOn: not behind what is no instruction");
        due.goesOn(false, 0x00000000, 0xFFFFFFFF, 0x5400000E, 0x0BC00000, 0x79000000, 0xA8000400, 0xD4000000, 0xD503201E);
    }

    private static void behindTheOthers(Sentences due) {
        due.sentence("goesOn: Whether control may go on behind a word (of the other kinds)");
        due.goesOn(true, 0x11000000, 0x0B000000, 0x0A000000, 0x12800000, 0x90000000, 0x1B000000, 0x1AC00800, 0x1A800000);
        due.goesOn(true, 0x39000000, 0x38206800, 0xA90007E0, 0x94000000, 0x5400000D, 0x34000000, 0xB5FFFFFF, 0x36000000);
        due.goesOn(true, 0xB7FFFFFF, 0xD63F0000, 0xD63F03E0, 0xD4000001, 0xD41FFFE1, 0xD503201F);
    }
}
