/** Counts the answers of one test and ends it with exit code 1 if one was not as due. */
final class Checks {
    private static final int MOST_PRINTED = 40;
    private final String test;
    private int made = 0;
    private int wrong = 0;

    Checks(String test) {
        this.test = test;
    }

    void due(String call, long got, long want) {
        made++;
        if (got != want) {
            fail(call + " answered " + got + ", due is " + want);
        }
    }

    void due(String call, boolean got, boolean want) {
        made++;
        if (got != want) {
            fail(call + " answered " + got + ", due is " + want);
        }
    }

    void dueWord(String call, int got, int want) {
        made++;
        if (got != want) {
            fail(call + " answered " + hex(got) + ", due is " + hex(want));
        }
    }

    int made() {
        return made;
    }

    int wrong() {
        return wrong;
    }

    static String hex(int w) {
        return String.format("0x%08X", w);
    }

    void end() {
        System.out.println(test + ": " + made + " answers, " + wrong + " not as due");
        if (made == 0 || wrong != 0) {
            System.exit(1);
        }
    }

    private void fail(String text) {
        wrong++;
        if (wrong <= MOST_PRINTED) {
            System.out.println(test + ": " + text);
        }
    }
}
