/** Promise 2: the kind of a word. */
final class KindTest {
    private static final int[] LOW_TENS = {0x000, 0x001, 0x00D, 0x00E, 0x010, 0x01F, 0x021, 0x3C0, 0x3E0, 0x3FF};

    public static void main(String[] args) {
        Checks checks = new Checks("KindTest");
        Fresh forms = new Fresh();
        checkSamples(checks, forms);
        checkNeighbours(checks, forms);
        checkPairs(checks, forms);
        checkHighBits(checks, forms);
        checks.end();
    }

    private static void checkSamples(Checks checks, Fresh forms) {
        for (int kind = 1; kind <= Words.KINDS; kind++) {
            for (int w : Words.samples(kind)) {
                checks.due("kind(" + Checks.hex(w) + ")", forms.next().kind(w), kind);
            }
        }
        for (int w : Words.NO_INSTRUCTIONS) {
            checks.due("kind(" + Checks.hex(w) + ")", forms.next().kind(w), 0);
        }
    }

    // Every word that is one or two bits away from one of the samples.
    private static void checkNeighbours(Checks checks, Fresh forms) {
        for (int w : Words.all()) {
            for (int i = 0; i < 32; i++) {
                for (int j = i; j < 32; j++) {
                    check(checks, forms, w ^ (1 << i) ^ (i == j ? 0 : 1 << j));
                    check(checks, forms, w ^ (1 << i));
                }
            }
        }
    }

    // Every way of PAIR with all registers.
    private static void checkPairs(Checks checks, Fresh forms) {
        for (int way = 0; way < 8; way++) {
            for (int registers = 0; registers < 1 << 15; registers++) {
                check(checks, forms, 0xA8000000 | way << 22 | registers);
            }
        }
    }

    // All bits from 10 on, with some words' bits below.
    private static void checkHighBits(Checks checks, Fresh forms) {
        for (int high = 0; high < 1 << 22; high++) {
            for (int low : LOW_TENS) {
                int w = high << 10 | low;
                int got = forms.next().kind(w);
                int want = Words.kindDue(w);
                if (got != want) {
                    checks.due("kind(" + Checks.hex(w) + ")", got, want);
                }
            }
        }
    }

    private static void check(Checks checks, Fresh forms, int w) {
        checks.due("kind(" + Checks.hex(w) + ")", forms.next().kind(w), Words.kindDue(w));
        if (Words.patternsFitting(w) > 1) {
            checks.due("the forms that " + Checks.hex(w) + " has", Words.patternsFitting(w), 1);
        }
    }
}
