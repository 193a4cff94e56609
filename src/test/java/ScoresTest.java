/** Promises 14, 17 and 18: weight, answer and score, and what the terms say of the score. */
public final class ScoresTest {
    private static final Due DUE = new Due("ScoresTest");

    public static void main(String[] args) {
        ofOnePhrase();
        ofSeveralPhrases();
        lnOfManySizes();
        ofFiltersAndNot();
        weights();
        weightRefused();
        order();
        equalOnes();
        refused();
        DUE.end();
    }

    /** LN as the document tells it. */
    private static double ln(double x) {
        int k = 0;
        while (x >= 1.5) {
            x = x / 2;
            k = k + 1;
        }
        while (x < 0.75) {
            x = x * 2;
            k = k - 1;
        }
        double z = (x - 1) / (x + 1);
        double y = z * z;
        double s = 0.0;
        for (int j = 19; j >= 1; j -= 2) {
            s = s * y + 1.0 / j;
        }
        return 2 * z * s + k * 0.6931471805599453;
    }

    /** What is added for one phrase: n of the N rows have it, f times, in a row of so many tokens. */
    private static double added(int rows, int n, int f, int rowTokens, int allTokens) {
        double idf = ln((rows - n + 0.5) / (n + 0.5));
        if (!(idf > 0)) {
            idf = 0.000001;
        }
        double average = (double) allTokens / rows;
        return idf * (f * 2.2) / (f + 1.2 * (0.25 + 0.75 * rowTokens / average));
    }

    private static PhraseShelf shelf() {
        PhraseShelf x = new PhraseShelf();
        Due.insert(x, "red cat red", "red hen");
        Due.insert(x, "cat", "");
        Due.insert(x, "dog dog", "owl");
        Due.insert(x, "", "");
        Due.insert(x, "owl owl owl owl", "cat hen fox");
        return x;
    }

    private static void ofOnePhrase() {
        PhraseShelf x = shelf();
        DUE.same("red", Due.ask(x, "red"), 1);
        DUE.sameReal("its score", x.score(0, false), added(5, 1, 3, 5, 16));
        DUE.sameReal("its score, written out", x.score(0, false), 1.5406833689688233);
        DUE.same("cat", Due.ask(x, "cat"), 3);
        DUE.sameReal("3 of 5 rows: of row 1", x.score(0, false), added(5, 3, 1, 5, 16));
        DUE.sameReal("of row 2", x.score(1, false), added(5, 3, 1, 1, 16));
        DUE.sameReal("of row 5", x.score(2, false), added(5, 3, 1, 7, 16));
        DUE.same("\"red hen\"", Due.ask(x, "\"red hen\""), 1);
        DUE.sameReal("a phrase is counted by its places", x.score(0, true), added(5, 1, 1, 5, 16));
        DUE.same("owl*", Due.ask(x, "o*"), 2);
        DUE.sameReal("of row 3", x.score(0, false), added(5, 2, 1, 3, 16));
        DUE.sameReal("of row 5", x.score(1, false), added(5, 2, 4, 7, 16));
    }

    private static void ofSeveralPhrases() {
        PhraseShelf x = shelf();
        DUE.same("three phrases", Due.ask(x, "cat red OR fox"), 2);
        double first = 0.0 + added(5, 3, 1, 5, 16);
        first = first + added(5, 1, 3, 5, 16);
        DUE.sameReal("in their order, row 1", x.score(0, false), first);
        double second = 0.0 + added(5, 3, 1, 7, 16);
        second = second + added(5, 1, 1, 7, 16);
        DUE.sameReal("row 5", x.score(1, false), second);
        DUE.same("the same phrase twice", Due.ask(x, "dog dog"), 1);
        DUE.sameReal("is added twice", x.score(0, false), added(5, 1, 2, 3, 16) + added(5, 1, 2, 3, 16));
        DUE.same("\"\"", Due.ask(x, "\"\" OR dog"), 1);
        DUE.sameReal("without tokens nothing is added", x.score(0, false), added(5, 1, 2, 3, 16));
    }

    private static void lnOfManySizes() {
        for (int rows = 1; rows <= 24; rows++) {
            PhraseShelf x = new PhraseShelf();
            Due.texts(x, "y y", "");
            for (int r = 1; r <= rows; r++) {
                x.insert();
            }
            Due.texts(x, "x y x", "x");
            for (int n = 1; n <= rows; n++) {
                x.replace(n);
                Due.ask(x, "x");
                int all = 2 * rows + 2 * n;
                DUE.sameReal(n + " of " + rows, x.score(n - 1, false), added(rows, n, 3, 4, all));
            }
        }
    }

    private static void ofFiltersAndNot() {
        PhraseShelf x = shelf();
        Due.ask(x, "a:red");
        DUE.sameReal("filters do not count", x.score(0, false), added(5, 1, 3, 5, 16));
        Due.ask(x, "^red");
        DUE.sameReal("nor does ^", x.score(0, false), added(5, 1, 3, 5, 16));
        Due.ask(x, "NEAR(red cat, 0)");
        DUE.sameReal("nor does NEAR", x.score(0, false), added(5, 1, 3, 5, 16) + added(5, 3, 1, 5, 16));
        Due.ask(x, "cat NOT b:red NOT a:hen");
        DUE.same("the first is row 2", x.answer(0, false), 2);
        DUE.same("then row 5", x.answer(1, false), 5);
        DUE.sameReal("what is behind NOT counts", x.score(1, false),
            added(5, 3, 1, 7, 16) + added(5, 2, 1, 7, 16));
        Due.ask(x, "hen NOT (owl NOT owl)");
        double twice = added(5, 2, 1, 7, 16) + added(5, 2, 5 - 1, 7, 16);
        DUE.sameReal("twice owl", x.score(1, false), twice + added(5, 2, 4, 7, 16));
    }

    private static void weights() {
        PhraseShelf x = shelf();
        DUE.same("weight(0, 5)", x.weight(0, 5), 1);
        DUE.same("weight(1, 0)", x.weight(1, 0), 1);
        Due.ask(x, "red");
        DUE.sameReal("two times 5", x.score(0, false), added(5, 1, 10, 5, 16));
        DUE.same("weight(1, 9)", x.weight(1, 9), 0);
        DUE.sameReal("the score is of that time", x.score(0, false), added(5, 1, 10, 5, 16));
        Due.ask(x, "red");
        DUE.sameReal("and 9", x.score(0, false), added(5, 1, 19, 5, 16));
        DUE.same("weight(0, 0)", x.weight(0, 0), 5);
        DUE.same("a row is found all the same", Due.ask(x, "dog"), 1);
        DUE.sameReal("with nothing added", x.score(0, true), 0.0);
        DUE.same("owl", Due.ask(x, "owl"), 2);
        DUE.sameReal("n is without weights", x.score(0, false), added(5, 2, 9, 3, 16));
        DUE.sameReal("nothing for row 5", x.score(1, false), 0.0);
        DUE.same("weight(0, 0) again", x.weight(0, 0), 0);
    }

    private static void weightRefused() {
        PhraseShelf x = new PhraseShelf();
        int[][] bad = {{-1, 1}, {2, 1}, {0, -1}, {0, 10}, {1, -1}, {1, 10}, {Integer.MIN_VALUE, 0},
            {Integer.MAX_VALUE, 0}, {0, Integer.MIN_VALUE}, {1, Integer.MAX_VALUE}};
        for (int[] b : bad) {
            DUE.refused("weight(" + b[0] + ", " + b[1] + ")", IllegalArgumentException.class,
                () -> x.weight(b[0], b[1]));
        }
        DUE.same("nothing changed of 0", x.weight(0, 9), 1);
        DUE.same("nothing changed of 1", x.weight(1, 9), 1);
        DUE.same("nine", x.weight(1, 0), 9);
    }

    private static void order() {
        PhraseShelf x = new PhraseShelf();
        Due.insert(x, "p z z z", "");
        Due.insert(x, "p p z z", "");
        Due.insert(x, "p p p p", "");
        Due.insert(x, "p p p z", "");
        Due.insert(x, "z z z z", "");
        DUE.same("p", Due.ask(x, "p"), 4);
        int[] want = {3, 4, 2, 1};
        for (int k = 0; k < 4; k++) {
            DUE.same("by number " + k, x.answer(k, false), k + 1);
            DUE.same("ranked " + k, x.answer(k, true), want[k]);
            DUE.sameReal("score of that", x.score(k, true), x.score(want[k] - 1, false));
        }
        DUE.same("z", Due.ask(x, "z"), 4);
        int[] other = {5, 1, 2, 4};
        int[] numbers = {1, 2, 4, 5};
        for (int k = 0; k < 4; k++) {
            DUE.same("by number " + k, x.answer(k, false), numbers[k]);
            DUE.same("ranked " + k, x.answer(k, true), other[k]);
        }
    }

    private static void equalOnes() {
        PhraseShelf x = new PhraseShelf();
        String[] texts = {"p q", "p p", "q p", "z z", "p p", "p q"};
        for (String text : texts) {
            Due.insert(x, text, "");
        }
        DUE.same("p", Due.ask(x, "p"), 5);
        int[] want = {2, 5, 1, 3, 6};
        for (int k = 0; k < want.length; k++) {
            DUE.same("of equal ones the least number, " + k, x.answer(k, true), want[k]);
        }
    }

    private static void refused() {
        PhraseShelf x = shelf();
        Due.ask(x, "cat");
        for (int k : new int[] {-1, 3, 23, 24, Integer.MIN_VALUE, Integer.MAX_VALUE}) {
            for (boolean ranked : new boolean[] {false, true}) {
                String call = "(" + k + ", " + ranked + ")";
                DUE.refused("answer" + call, IndexOutOfBoundsException.class, () -> x.answer(k, ranked));
                DUE.refused("score" + call, IndexOutOfBoundsException.class, () -> x.score(k, ranked));
            }
        }
    }
}
