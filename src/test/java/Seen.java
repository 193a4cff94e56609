/** What can be seen of an object, told as a text: two objects that are alike tell the same. */
final class Seen {
    private Seen() {
    }

    /** All that can be seen without changing the object. */
    static String of(PhraseShelf x) {
        StringBuilder all = new StringBuilder("counts");
        for (int what = 0; what <= 8; what++) {
            all.append(' ').append(x.count(what));
        }
        all.append(", wrong ").append(x.wrong()).append(", rows");
        for (int r = 1; r <= 24; r++) {
            all.append(' ').append(row(x, r));
        }
        all.append(", segments ").append(Due.segments(x)).append(", answers");
        int found = x.count(5);
        for (int k = 0; k < found; k++) {
            all.append(' ').append(x.answer(k, false)).append('=').append(x.score(k, false));
            all.append('/').append(x.answer(k, true)).append('=').append(x.score(k, true));
        }
        return all.toString();
    }

    private static String row(PhraseShelf x, int r) {
        try {
            return x.look(r, 0) + ":" + x.look(r, 1) + ":" + x.look(r, 2);
        } catch (java.util.NoSuchElementException e) {
            return "-";
        }
    }

    /**
     * What the object shows only when it is used on: the letters of the draft, the texts that were set, what a
     * transaction keeps, weights, limit and most. If back is true an open transaction is taken back.
     */
    static String goingOn(PhraseShelf x, boolean back) {
        StringBuilder all = new StringBuilder(draft(x));
        if (x.count(7) == 1) {
            all.append(", end of the transaction ").append(back ? x.rollback() : x.commit());
        }
        all.append(", rows with their words");
        for (String word : new String[] {"p", "q", "r", "s", "t*"}) {
            all.append(' ').append(Due.ask(x, word)).append(answers(x));
        }
        all.append(", weights ").append(x.weight(0, 1)).append(' ').append(x.weight(1, 1));
        for (int r = x.count(0); r > 20; r--) {
            all.append(", delete ").append(x.delete(r));
        }
        all.append(", texts ").append(x.insert()).append(answersOf(x, "p"));
        for (int i = 0; i < 5; i++) {
            all.append(", replace ").append(x.replace(1)).append(" pending ").append(x.count(2));
            all.append(" segments ").append(Due.segments(x));
        }
        for (int i = 0; i < 4; i++) {
            x.replace(1);
            all.append(", flush ").append(x.flush());
        }
        return all.append(", made ").append(x.count(3)).append(' ').append(x.count(4)).toString();
    }

    /** The draft as a question that finds nothing or is wrong at a place; it is empty then. */
    private static String draft(PhraseShelf x) {
        String length = "draft " + x.count(8);
        try {
            return length + " finds " + x.ask() + answers(x) + " by " + x.count(6);
        } catch (IllegalArgumentException e) {
            return length + " wrong at " + x.wrong();
        }
    }

    private static String answersOf(PhraseShelf x, String question) {
        return Due.ask(x, question) + answers(x);
    }

    private static String answers(PhraseShelf x) {
        StringBuilder all = new StringBuilder("[");
        int found = x.count(5);
        for (int k = 0; k < found; k++) {
            all.append(x.answer(k, true)).append('=').append(x.score(k, true)).append(' ');
        }
        return all.append(']').toString();
    }
}
