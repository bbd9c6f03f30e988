/** Promise 1 at its edge: the last call that the document lets an object have. */
final class CallsEdgesTest {
    private static final int MOST_CALLS = 512;

    public static void main(String[] args) {
        Checks checks = new Checks("CallsEdgesTest");
        for (int method = 0; method < 9; method++) {
            WordForms forms = new WordForms();
            for (int call = 1; call <= MOST_CALLS; call++) {
                check(checks, forms, call, call == MOST_CALLS ? method : call % 9);
            }
        }
        checks.end();
    }

    private static void check(Checks checks, WordForms forms, int call, int method) {
        String text = "call " + call + ": ";
        switch (method) {
            case 0: checks.due(text + "kind", forms.kind(0x5400008B), 14); break;
            case 1: checks.due(text + "by", forms.by(0x5400008B), 16); break;
            case 2: checks.dueWord(text + "going", forms.going(0x5400008B, -20), 0x54FFFF6B); break;
            case 3: checks.due(text + "reaches", forms.reaches(0x5400008B, 1048572L), true); break;
            case 4: checks.dueWord(text + "turned", forms.turned(0x5400008B), 0x5400008A); break;
            case 5: checks.due(text + "page", forms.page(0xB0000001, 65552L), 69632L); break;
            case 6: checks.dueWord(text + "paging", forms.paging(0x90000001, 65540L, 69700L), 0xB0000001); break;
            case 7: checks.due(text + "goesOn", forms.goesOn(0x5400008B), true); break;
            default: checks.due(text + "register", forms.register(0x9B0F3443, 3), 13); break;
        }
    }
}
