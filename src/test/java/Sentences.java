/** Tests the document's sentences one by one, each on a new object, and tells of each whether it holds. */
final class Sentences {
    private final String test;
    private final Checks checks;
    private Fresh forms = new Fresh();
    private String sentence = "";
    private int madeBefore = 0;
    private int wrongBefore = 0;

    Sentences(String test) {
        this.test = test;
        this.checks = new Checks(test);
    }

    /** Begins the test of a sentence, given in the document's words. */
    void sentence(String words) {
        tellSentence();
        sentence = words;
        madeBefore = checks.made();
        wrongBefore = checks.wrong();
        forms = new Fresh();
    }

    void kinds(int want, int... words) {
        for (int w : words) {
            checks.due("kind(" + Checks.hex(w) + ")", forms.next().kind(w), want);
        }
    }

    void kindIsNot(int kind, int w) {
        checks.due("kind(" + Checks.hex(w) + ") is " + kind, forms.next().kind(w) == kind, false);
    }

    void by(int w, int want) {
        checks.due("by(" + Checks.hex(w) + ")", forms.next().by(w), want);
    }

    void going(int w, int by, int want) {
        checks.dueWord("going(" + Checks.hex(w) + ", " + by + ")", forms.next().going(w, by), want);
    }

    void reaches(int w, long... distances) {
        for (long by : distances) {
            checks.due("reaches(" + Checks.hex(w) + ", " + by + ")", forms.next().reaches(w, by), true);
        }
    }

    void reachesNot(int w, long... distances) {
        for (long by : distances) {
            checks.due("reaches(" + Checks.hex(w) + ", " + by + ")", forms.next().reaches(w, by), false);
        }
    }

    void turned(int w, int want) {
        checks.dueWord("turned(" + Checks.hex(w) + ")", forms.next().turned(w), want);
    }

    void page(int w, long address, long want) {
        checks.due("page(" + Checks.hex(w) + ", " + address + ")", forms.next().page(w, address), want);
    }

    void paging(int w, long address, long target, int want) {
        checks.dueWord("paging(" + Checks.hex(w) + ", " + address + ", " + target + ")",
            forms.next().paging(w, address, target), want);
    }

    void goesOn(boolean want, int... words) {
        for (int w : words) {
            checks.due("goesOn(" + Checks.hex(w) + ")", forms.next().goesOn(w), want);
        }
    }

    void register(int w, int what, int want) {
        checks.due("register(" + Checks.hex(w) + ", " + what + ")", forms.next().register(w, what), want);
    }

    void end() {
        tellSentence();
        checks.end();
    }

    private void tellSentence() {
        if (sentence.isEmpty()) {
            return;
        }
        // A sentence without an answer has not been tested.
        checks.due("\"" + sentence + "\" has answers", checks.made() > madeBefore, true);
        boolean holds = checks.wrong() == wrongBefore;
        System.out.println(test + ": " + (holds ? "holds  " : "BROKEN ") + "\"" + sentence + "\"");
    }
}
