/** Promise 5: whether a word reaches so far. */
final class ReachesTest {
    public static void main(String[] args) {
        Checks checks = new Checks("ReachesTest");
        WordForms forms = new WordForms();
        for (int w : Words.all()) {
            for (long by : Reaches.DISTANCES) {
                check(checks, forms, w, by);
            }
            for (long by : Reaches.LONG_DISTANCES) {
                check(checks, forms, w, by);
            }
        }
        checks.end();
    }

    private static void check(Checks checks, WordForms forms, int w, long by) {
        checks.due("reaches(" + Checks.hex(w) + ", " + by + ")", forms.reaches(w, by),
            Reaches.reachDue(Words.kindDue(w), by));
    }
}
