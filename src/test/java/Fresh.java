/** Hands out an object to call, and a new one when the document's 512 calls of the last are used up. */
final class Fresh {
    private static final int MOST_CALLS = 512;
    private WordForms forms = new WordForms();
    private int calls = 0;

    /** For one call each. */
    WordForms next() {
        if (calls == MOST_CALLS) {
            forms = new WordForms();
            calls = 0;
        }
        calls++;
        return forms;
    }
}
