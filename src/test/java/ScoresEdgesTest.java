import java.math.BigDecimal;
import java.math.MathContext;
import java.math.RoundingMode;

/** The edges of promises 14, 17 and 18 and of what the terms say of the score. */
public final class ScoresEdgesTest {
    private static final Due DUE = new Due("ScoresEdgesTest");

    public static void main(String[] args) {
        everyNumberOfRowsAndFinds();
        everyRowThatHasIt();
        oneTokenInAll();
        halfOfTheRows();
        everyWeight();
        everyWeightNumber();
        weightsAreOfTheAsk();
        nothingIsAdded();
        rowsWithoutTokensCount();
        placesThatOverlap();
        asManyPlacesAsCanBe();
        phrasesInTheirOrder();
        twelvePhrasesAdd();
        everyAnswerNumber();
        rankedByScoreThenNumber();
        allEqual();
        rankedOfNoneOneAndAll();
        rankedAgain();
        scoresOfThatTime();
        DUE.end();
    }

    /** LN in its steps, each rounded to a double, by numbers of any length. */
    private static double ln(double of) {
        double x = of;
        int k = 0;
        while (x >= 1.5) {
            x = over(x, 2);
            k++;
        }
        while (x < 0.75) {
            x = times(x, 2);
            k--;
        }
        double z = over(plus(x, -1), plus(x, 1));
        double y = times(z, z);
        double s = 0;
        for (int j = 19; j >= 1; j -= 2) {
            s = plus(times(s, y), over(1, j));
        }
        return plus(times(times(2, z), s), times(k, 0.6931471805599453));
    }

    private static double plus(double a, double b) {
        return new BigDecimal(a).add(new BigDecimal(b)).doubleValue();
    }

    private static double times(double a, double b) {
        return new BigDecimal(a).multiply(new BigDecimal(b)).doubleValue();
    }

    private static double over(double a, double b) {
        return new BigDecimal(a).divide(new BigDecimal(b), new MathContext(60, RoundingMode.DOWN)).doubleValue();
    }

    /** What is added for a phrase in n of so many rows, f times in a row of so many tokens. */
    private static double added(int rows, int n, int f, int rowTokens, int allTokens) {
        double idf = ln(over(plus(rows - n, 0.5), plus(n, 0.5)));
        if (idf <= 0) {
            idf = 0.000001;
        }
        double average = over(allTokens, rows);
        double length = plus(0.25, over(times(0.75, rowTokens), average));
        return over(times(idf, times(f, 2.2)), plus(f, times(1.2, length)));
    }

    private static PhraseShelf rows(int rows, int with) {
        PhraseShelf x = new PhraseShelf();
        x.ways(3, 200);
        Due.texts(x, "p q", "");
        for (int r = 1; r <= with; r++) {
            x.insert();
        }
        Due.texts(x, "q", "");
        for (int r = with + 1; r <= rows; r++) {
            x.insert();
        }
        return x;
    }

    private static void everyNumberOfRowsAndFinds() {
        for (int rows = 1; rows <= 24; rows++) {
            for (int n = 1; n <= rows; n++) {
                PhraseShelf x = rows(rows, n);
                DUE.same(n + " of " + rows, Due.ask(x, "p"), n);
                DUE.sameReal("score, " + n + " of " + rows, x.score(n - 1, true), added(rows, n, 1, 2, rows + n));
            }
        }
    }

    /** In how many rows it stands: each row counts, by either column, and by both only once. */
    private static void everyRowThatHasIt() {
        String[][] texts = {{"p q", ""}, {"q", "p"}, {"p", "p"}};
        for (String[] with : texts) {
            for (int r = 1; r <= 23; r++) {
                PhraseShelf x = new PhraseShelf();
                x.ways(3, 200);
                Due.texts(x, "q", "q");
                for (int i = 0; i < 24; i++) {
                    x.insert();
                }
                Due.texts(x, with[0], with[1]);
                x.replace(r);
                x.replace(r + 1);
                DUE.same("two rows", Due.ask(x, "p"), 2);
                int f = with[0].startsWith("p") && with[1].equals("p") ? 2 : 1;
                DUE.sameReal("rows " + r + " and " + (r + 1), x.score(1, false), added(24, 2, f, 2, 48));
            }
        }
    }

    private static void oneTokenInAll() {
        PhraseShelf x = new PhraseShelf();
        Due.insert(x, "", "p");
        DUE.same("one row of one token", Due.ask(x, "p"), 1);
        DUE.sameReal("its score", x.score(0, true), added(1, 1, 1, 1, 1));
        x.insert();
        Due.texts(x, "", "");
        x.replace(1);
        x.insert();
        DUE.same("one row of three has it", Due.ask(x, "p"), 1);
        DUE.sameReal("its score then", x.score(0, true), added(3, 1, 1, 1, 1));
    }

    /** If half of the rows have it LN is 0, if more it is below: 0.000001 then. One less and it is above. */
    private static void halfOfTheRows() {
        for (int n = 1; n <= 12; n++) {
            PhraseShelf half = rows(2 * n, n);
            Due.ask(half, "p");
            double small = 0.000001 * 2.2 / (1 + 1.2 * (0.25 + 0.75 * 2 / (3 * n / (2.0 * n))));
            DUE.sameReal("half of " + 2 * n, half.score(0, false), small);
            PhraseShelf more = rows(2 * n - 1, n);
            Due.ask(more, "p");
            DUE.same("more than half of " + (2 * n - 1), more.score(0, false) < 0.000002 ? 1 : 0, 1);
            DUE.same("but above 0", more.score(0, false) > 0.0 ? 1 : 0, 1);
            if (n < 12) {
                PhraseShelf less = rows(2 * n + 1, n);
                Due.ask(less, "p");
                DUE.same("less than half of " + (2 * n + 1), less.score(0, false) > 0.01 ? 1 : 0, 1);
            }
        }
    }

    /** Each pair of weights, for a phrase that stands twice in one column and three times in the other. */
    private static void everyWeight() {
        for (int first = 0; first <= 9; first++) {
            for (int second = 0; second <= 9; second++) {
                PhraseShelf x = new PhraseShelf();
                Due.insert(x, "p q p", "p p p");
                Due.insert(x, "q", "q");
                Due.insert(x, "q", "");
                DUE.same("weight(0)", x.weight(0, first), 1);
                DUE.same("weight(1)", x.weight(1, second), 1);
                DUE.same("it is found", Due.ask(x, "p"), 1);
                int f = 2 * first + 3 * second;
                double want = f == 0 ? 0.0 : added(3, 1, f, 6, 9);
                DUE.sameReal("weights " + first + " and " + second, x.score(0, true), want);
                DUE.same("what it was", x.weight(0, 1), first);
                DUE.same("what it was", x.weight(1, 1), second);
            }
        }
    }

    private static void everyWeightNumber() {
        for (int column = -3; column <= 4; column++) {
            for (int weight = -5; weight <= 15; weight++) {
                PhraseShelf x = new PhraseShelf();
                int c = column;
                int w = weight;
                String name = "weight(" + column + ", " + weight + ")";
                if ((column == 0 || column == 1) && weight >= 0 && weight <= 9) {
                    DUE.same(name, x.weight(column, weight), 1);
                    DUE.same(name + " is of that column", x.weight(column, 1), weight);
                    DUE.same(name + " is not of the other", x.weight(1 - column, 1), 1);
                } else {
                    DUE.refused(name, IllegalArgumentException.class, () -> x.weight(c, w));
                    DUE.same(name + ": column 0", x.weight(0, 1), 1);
                    DUE.same(name + ": column 1", x.weight(1, 1), 1);
                }
            }
        }
    }

    private static void weightsAreOfTheAsk() {
        PhraseShelf x = rows(3, 1);
        x.weight(0, 9);
        Due.ask(x, "p");
        double nine = x.score(0, false);
        DUE.sameReal("nine", nine, added(3, 1, 9, 2, 4));
        x.weight(0, 0);
        DUE.sameReal("weights of later do not count", x.score(0, false), nine);
        Due.ask(x, "p");
        DUE.sameReal("but at the next ask", x.score(0, false), 0.0);
    }

    private static void nothingIsAdded() {
        PhraseShelf x = new PhraseShelf();
        Due.insert(x, "p", "q");
        Due.insert(x, "r", "");
        Due.insert(x, "r", "");
        Due.ask(x, "p OR z");
        DUE.sameReal("nothing for what stands nowhere", x.score(0, false), added(3, 1, 1, 2, 4));
        Due.ask(x, "p OR \"\"");
        DUE.sameReal("nor for what has no tokens", x.score(0, false), added(3, 1, 1, 2, 4));
        Due.ask(x, "p OR r");
        DUE.sameReal("nor for what stands in other rows", x.score(0, false), added(3, 1, 1, 2, 4));
        x.weight(1, 0);
        Due.ask(x, "p q");
        DUE.sameReal("nor in a column of weight 0", x.score(0, false), added(3, 1, 1, 2, 4));
        x.weight(0, 0);
        Due.ask(x, "p q");
        DUE.sameReal("0.0 if there is nothing", x.score(0, false), 0.0);
    }

    /** Rows without tokens are rows: they count in N and lower the average. */
    private static void rowsWithoutTokensCount() {
        for (int empty = 0; empty <= 23; empty++) {
            PhraseShelf x = new PhraseShelf();
            Due.insert(x, "p q q", "");
            Due.texts(x, "", "?");
            for (int i = 0; i < empty; i++) {
                x.insert();
            }
            Due.ask(x, "p");
            DUE.sameReal(empty + " rows without tokens", x.score(0, false), added(1 + empty, 1, 1, 3, 3));
        }
        PhraseShelf x = new PhraseShelf();
        Due.insert(x, "p q q", "");
        Due.insert(x, "q", "");
        Due.insert(x, "q", "");
        x.delete(3);
        Due.ask(x, "p");
        DUE.sameReal("deleted rows do not count", x.score(0, false), added(2, 1, 1, 3, 4));
    }

    private static void placesThatOverlap() {
        PhraseShelf x = new PhraseShelf();
        Due.insert(x, "p p p p", "p p");
        Due.insert(x, "q", "");
        Due.insert(x, "q", "");
        Due.ask(x, "p+p");
        DUE.sameReal("three places and one", x.score(0, false), added(3, 1, 4, 6, 8));
        Due.ask(x, "p+p+p+p");
        DUE.sameReal("one place", x.score(0, false), added(3, 1, 1, 6, 8));
        Due.ask(x, "p*");
        DUE.sameReal("six places", x.score(0, false), added(3, 1, 6, 6, 8));
        Due.ask(x, "^p");
        DUE.sameReal("six, although ^ takes two", x.score(0, false), added(3, 1, 6, 6, 8));
        Due.ask(x, "b:p");
        DUE.sameReal("six, although b takes two", x.score(0, false), added(3, 1, 6, 6, 8));
    }

    private static void asManyPlacesAsCanBe() {
        PhraseShelf x = new PhraseShelf();
        Due.insert(x, "p ".repeat(24), "p ".repeat(24));
        Due.insert(x, "q", "");
        Due.insert(x, "", "q");
        x.weight(0, 9);
        x.weight(1, 9);
        Due.ask(x, "p");
        DUE.sameReal("48 places times 9", x.score(0, false), added(3, 1, 432, 48, 50));
    }

    /** The sum depends on the order in which it is made: it is that of the phrases, from 0.0 on. */
    private static void phrasesInTheirOrder() {
        PhraseShelf x = new PhraseShelf();
        Due.insert(x, "p p q r s", "q r");
        Due.insert(x, "p", "t");
        Due.insert(x, "q r t", "");
        Due.insert(x, "t u", "");
        Due.insert(x, "t", "");
        double p = added(5, 2, 2, 7, 15);
        double q = added(5, 2, 2, 7, 15);
        double s = added(5, 1, 1, 7, 15);
        double qr = added(5, 2, 2, 7, 15);
        Due.ask(x, "p q s");
        DUE.sameReal("p q s", x.score(0, true), plus(plus(p, q), s));
        Due.ask(x, "s OR q OR p");
        DUE.sameReal("s q p", ofRow(x, 1), plus(plus(s, q), p));
        Due.ask(x, "p NOT (t NOT s) OR NEAR(q+r s)");
        DUE.sameReal("p t s q+r s", ofRow(x, 1), plus(plus(plus(p, s), qr), s));
        Due.ask(x, "s s s");
        DUE.sameReal("three times the same", x.score(0, true), plus(plus(s, s), s));
    }

    private static double ofRow(PhraseShelf x, int row) {
        for (int k = 0; k < x.count(5); k++) {
            if (x.answer(k, false) == row) {
                return x.score(k, false);
            }
        }
        return -1;
    }

    private static void twelvePhrasesAdd() {
        PhraseShelf x = new PhraseShelf();
        Due.insert(x, "a b c d e f g h i j k l", "");
        Due.insert(x, "a", "");
        Due.insert(x, "z", "");
        Due.insert(x, "z", "");
        DUE.same("twelve", Due.ask(x, "a b c d e f g h i j k l"), 1);
        double sum = plus(0.0, added(4, 2, 1, 12, 15));
        for (int i = 1; i < 12; i++) {
            sum = plus(sum, added(4, 1, 1, 12, 15));
        }
        DUE.sameReal("the sum of twelve", x.score(0, false), sum);
    }

    private static void everyAnswerNumber() {
        for (int size = 0; size <= 24; size++) {
            PhraseShelf x = rows(24, size);
            DUE.same("ask", Due.ask(x, "p"), size);
            for (int k = -2; k <= 26; k++) {
                answerNumber(x, size, k, false);
                answerNumber(x, size, k, true);
            }
        }
    }

    private static void answerNumber(PhraseShelf x, int size, int k, boolean ranked) {
        String name = "(" + k + ", " + ranked + ") of " + size;
        if (k >= 0 && k < size) {
            DUE.same("answer" + name, x.answer(k, ranked), k + 1);
            DUE.sameReal("score" + name, x.score(k, ranked), added(24, size, 1, 2, 24 + size));
        } else {
            DUE.refused("answer" + name, IndexOutOfBoundsException.class, () -> x.answer(k, ranked));
            DUE.refused("score" + name, IndexOutOfBoundsException.class, () -> x.score(k, ranked));
        }
    }

    /** Rows of 1 to 12 places, twice, in an order of their own: ranked they fall, equal ones by number. */
    private static void rankedByScoreThenNumber() {
        PhraseShelf x = new PhraseShelf();
        x.ways(3, 200);
        int[] places = {3, 12, 7, 1, 9, 5, 11, 2, 8, 4, 10, 6, 6, 1, 12, 3, 10, 8, 2, 9, 4, 11, 7, 5};
        for (int f : places) {
            Due.insert(x, "p ".repeat(f) + "q ".repeat(12 - f), "");
        }
        DUE.same("all", Due.ask(x, "p"), 24);
        for (int k = 0; k < 24; k++) {
            int row = x.answer(k, true);
            DUE.same("places of the ranked " + k, places[row - 1], 12 - k / 2);
            DUE.sameReal("score of the ranked " + k, x.score(k, true), x.score(row - 1, false));
            DUE.same("by number", x.answer(k, false), k + 1);
            if (k % 2 == 1) {
                DUE.same("of equal ones the least number", x.answer(k - 1, true) < row ? 1 : 0, 1);
            }
        }
    }

    private static void allEqual() {
        PhraseShelf x = rows(24, 24);
        x.weight(0, 0);
        DUE.same("all, with 0.0", Due.ask(x, "p"), 24);
        for (int k = 0; k < 24; k++) {
            DUE.same("ranked " + k, x.answer(k, true), k + 1);
            DUE.sameReal("score " + k, x.score(k, true), 0.0);
        }
    }

    private static void rankedOfNoneOneAndAll() {
        PhraseShelf x = new PhraseShelf();
        Due.insert(x, "q q", "");
        Due.insert(x, "p q", "");
        Due.insert(x, "p p", "");
        DUE.same("none", Due.ask(x, "z"), 0);
        DUE.refused("answer(0, true)", IndexOutOfBoundsException.class, () -> x.answer(0, true));
        DUE.same("one", Due.ask(x, "p NOT q"), 1);
        DUE.same("it is row 3", x.answer(0, true), 3);
        DUE.refused("answer(1, true)", IndexOutOfBoundsException.class, () -> x.answer(1, true));
        DUE.same("all", Due.ask(x, "p OR q"), 3);
        DUE.refused("answer(3, true)", IndexOutOfBoundsException.class, () -> x.answer(3, true));
        DUE.same("then two", Due.ask(x, "p"), 2);
        DUE.same("the best", x.answer(0, true), 3);
        DUE.same("the least number", x.answer(0, false), 2);
        DUE.refused("the third is gone", IndexOutOfBoundsException.class, () -> x.answer(2, true));
    }

    /** The order of a question has nothing of that of the one before. */
    private static void rankedAgain() {
        PhraseShelf x = new PhraseShelf();
        Due.insert(x, "p q q q r", "");
        Due.insert(x, "p p q q r", "");
        Due.insert(x, "p p p q r", "");
        String[] questions = {"p", "r", "q", "p", "q", "r", "z", "q"};
        int[][] want = {{3, 2, 1}, {1, 2, 3}, {1, 2, 3}, {3, 2, 1}, {1, 2, 3}, {1, 2, 3}, {}, {1, 2, 3}};
        for (int i = 0; i < questions.length; i++) {
            DUE.same("ask", Due.ask(x, questions[i]), want[i].length);
            for (int k = 0; k < want[i].length; k++) {
                DUE.same("question " + i + " ranked " + k, x.answer(k, true), want[i][k]);
            }
        }
    }

    private static void scoresOfThatTime() {
        PhraseShelf x = rows(5, 2);
        Due.ask(x, "p");
        double before = x.score(0, true);
        Due.texts(x, "p p p", "p");
        x.replace(1);
        x.delete(2);
        x.insert();
        x.flush();
        x.optimize();
        DUE.sameReal("rows of later do not count", x.score(0, true), before);
        DUE.wrongAt(x, "p OR", 4);
        DUE.sameReal("nor does a question that is none", x.score(1, false), before);
        Due.ask(x, "p");
        DUE.sameReal("but at the next one", x.score(0, true), added(5, 2, 4, 4, 11));
    }
}
