/** Promise 5: whether a word reaches so far. */
final class ReachesTest {
    public static void main(String[] args) {
        Checks checks = new Checks("ReachesTest");
        Fresh forms = new Fresh();
        for (int w : Words.all()) {
            for (long by : Reaches.DISTANCES) {
                check(checks, forms, w, by);
            }
            for (long by : Reaches.LONG_DISTANCES) {
                check(checks, forms, w, by);
            }
        }
        checks.end();
    }

    private static void check(Checks checks, Fresh forms, int w, long by) {
        checks.due("reaches(" + Checks.hex(w) + ", " + by + ")", forms.next().reaches(w, by),
            Reaches.reachDue(Words.kindDue(w), by));
    }
}
