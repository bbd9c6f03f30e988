/** Promise 9: whether control may go on behind a word. */
final class GoesOnTest {
    public static void main(String[] args) {
        Checks checks = new Checks("GoesOnTest");
        Fresh forms = new Fresh();
        for (int kind = 1; kind <= Words.KINDS; kind++) {
            boolean due = kind != 12 && kind != 17 && kind != 19;
            for (int w : Words.samples(kind)) {
                checks.due("goesOn(" + Checks.hex(w) + ")", forms.next().goesOn(w), due);
            }
        }
        for (int w : Words.NO_INSTRUCTIONS) {
            checks.due("goesOn(" + Checks.hex(w) + ")", forms.next().goesOn(w), false);
        }
        checks.end();
    }
}
