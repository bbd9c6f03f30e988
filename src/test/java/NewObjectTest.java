import java.util.List;

/** Promise 1: a new object answers as the terms say, and its answers do not hang on calls before or on other objects. */
final class NewObjectTest {
    private static final int MOST_CALLS = 512;

    public static void main(String[] args) {
        Checks checks = new Checks("NewObjectTest");
        List<Integer> words = Words.all();
        for (int w : words) {
            checks.due("new: kind(" + Checks.hex(w) + ")", new WordForms().kind(w), Words.kindDue(w));
        }
        WordForms used = new WordForms();
        WordForms beside = new WordForms();
        for (int call = 0; call < MOST_CALLS; call++) {
            int w = words.get(call % words.size());
            String text = "call " + call + " on " + Checks.hex(w);
            checks.due(text, answer(used, call, w), answer(new WordForms(), call, w));
            checks.due(text + " beside", answer(beside, MOST_CALLS - call, w), answer(new WordForms(), MOST_CALLS - call, w));
        }
        checks.end();
    }

    private static long answer(WordForms forms, int call, int w) {
        switch (call % 9) {
            case 0: return forms.kind(w);
            case 1: return forms.by(w);
            case 2: return forms.going(w, 4 * call);
            case 3: return forms.reaches(w, 4L * call) ? 1 : 0;
            case 4: return forms.turned(w);
            case 5: return forms.page(w, 4096L * call);
            case 6: return forms.paging(w, 65536L, 4096L * call);
            case 7: return forms.goesOn(w) ? 1 : 0;
            default: return forms.register(w, call % 4);
        }
    }
}
