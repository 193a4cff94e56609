/** Promise 15, and what the terms say of questions: which rows are found. */
public final class QuestionsTest {
    private static final Due DUE = new Due("QuestionsTest");

    public static void main(String[] args) {
        strings();
        phrases();
        beginnings();
        firstPlace();
        joining();
        filters();
        near();
        nearOfLongPhrases();
        depthAndPhrases();
        answersStay();
        answersAreOfThatTime();
        draftIsEmpty();
        DUE.end();
    }

    private static PhraseShelf shelf() {
        PhraseShelf x = new PhraseShelf();
        Due.insert(x, "The red cat sat", "a dog");
        Due.insert(x, "Red dog", "the cat and the hen");
        Due.insert(x, "catalog of cats", "red-cat 42");
        Due.insert(x, "", "near not or 4");
        Due.insert(x, "", "");
        return x;
    }

    private static void strings() {
        PhraseShelf x = shelf();
        DUE.finds(x, "cat", "1 2 3");
        DUE.finds(x, "CAT", "1 2 3");
        DUE.finds(x, "  cat  ", "1 2 3");
        DUE.finds(x, "\"cat\"", "1 2 3");
        DUE.finds(x, "\"?cat!\"", "1 2 3");
        DUE.finds(x, "ca", "");
        Due.insert(x, "aA zZ", "0 9 A Z 0a9");
        DUE.finds(x, "AA + zz", "6");
        DUE.finds(x, "\"0 9 a z 0A9\"", "6");
        DUE.finds(x, "42", "3");
        DUE.finds(x, "4", "4");
        DUE.finds(x, "and", "2");
        DUE.finds(x, "or", "4");
        DUE.finds(x, "\"AND\"", "2");
        DUE.finds(x, "\"NEAR\" \"OR\"", "4");
        DUE.finds(x, "near", "4");
        DUE.finds(x, "NEARcat OR ANDcat OR catNOT", "");
        DUE.finds(x, "a", "1 6");
        DUE.finds(x, "\"a:dog\"", "1");
        DUE.finds(x, "\"\"", "");
        DUE.finds(x, "\" ?\"", "");
        DUE.finds(x, "\"\" OR cat", "1 2 3");
        DUE.finds(x, "cat\"dog\"", "1 2");
        DUE.finds(x, "\"cat\"\"dog\"", "1 2");
        DUE.finds(x, "\"cat\"dog", "1 2");
    }

    private static void phrases() {
        PhraseShelf x = shelf();
        DUE.finds(x, "\"red cat\"", "1 3");
        DUE.finds(x, "\"red...CAT\"", "1 3");
        DUE.finds(x, "red+cat", "1 3");
        DUE.finds(x, "red + cat", "1 3");
        DUE.finds(x, "red + cat + sat", "1");
        DUE.finds(x, "\"red cat\" + sat", "1");
        DUE.finds(x, "\"the red\" + \"cat sat\"", "1");
        DUE.finds(x, "cat + red", "");
        DUE.finds(x, "sat + a", "");
        DUE.finds(x, "the + the", "");
        DUE.finds(x, "red + \"\" + cat", "1 3");
        DUE.finds(x, "\"\" + red + \"?\"", "1 2 3");
        DUE.finds(x, "\"\" + \"\"", "");
        DUE.finds(x, "\"re\"+\"d\"", "");
        DUE.finds(x, "\"the cat and the hen\"", "2");
        DUE.finds(x, "\"the cat and the hen x\"", "");
    }

    private static void beginnings() {
        PhraseShelf x = shelf();
        DUE.finds(x, "cat*", "1 2 3");
        DUE.finds(x, "ca *", "1 2 3");
        DUE.finds(x, "catal*", "3");
        DUE.finds(x, "catalogs*", "");
        DUE.finds(x, "red + c*", "1 3");
        DUE.finds(x, "\"re ca\"*", "");
        DUE.finds(x, "\"red ca\"*", "1 3");
        DUE.finds(x, "\"of ca\" + \"\" *", "3");
        DUE.finds(x, "at*", "");
        DUE.finds(x, "\"\"*", "");
        DUE.finds(x, "4*", "3 4");
        DUE.finds(x, "sa*do", "");
        DUE.finds(x, "sa*do*", "1");
        DUE.finds(x, "T*", "1 2");
    }

    private static void firstPlace() {
        PhraseShelf x = shelf();
        DUE.finds(x, "^red", "2 3");
        DUE.finds(x, "^ the", "1 2");
        DUE.finds(x, "^cat*", "3");
        DUE.finds(x, "^the+cat", "2");
        DUE.finds(x, "^\"the red\"", "1");
        DUE.finds(x, "^\"\"", "");
        DUE.finds(x, "^red dog", "2");
        DUE.finds(x, "b:^red", "3");
        DUE.finds(x, "a:^red", "2");
        DUE.finds(x, "^the ^a", "1");
    }

    private static void joining() {
        PhraseShelf x = new PhraseShelf();
        for (int bits = 1; bits < 16; bits++) {
            Due.insert(x, (bits & 1) == 0 ? "" : "p", (bits & 2) == 0 ? "" : "q");
            Due.type(x, ((bits & 1) == 0 ? "" : "p ") + ((bits & 4) == 0 ? "" : "r"));
            x.set(0);
            Due.type(x, ((bits & 2) == 0 ? "" : "q ") + ((bits & 8) == 0 ? "" : "s"));
            x.set(1);
            x.replace(bits);
        }
        DUE.finds(x, "p q", "3 7 11 15");
        DUE.finds(x, "p AND q", "3 7 11 15");
        DUE.finds(x, "p OR q", "1 2 3 5 6 7 9 10 11 13 14 15");
        DUE.finds(x, "p NOT q", "1 5 9 13");
        DUE.finds(x, "p q r s", "15");
        DUE.finds(x, "p OR q r", "1 3 5 6 7 9 11 13 14 15");
        DUE.finds(x, "p OR q AND r", "1 3 5 6 7 9 11 13 14 15");
        DUE.finds(x, "p AND q OR r", "3 4 5 6 7 11 12 13 14 15");
        DUE.finds(x, "p AND q NOT r", "3 11");
        DUE.finds(x, "p NOT q AND r", "5 13");
        DUE.finds(x, "p NOT q r", "1 3 5 9 11 13");
        DUE.finds(x, "p NOT (q AND r)", "1 3 5 9 11 13");
        DUE.finds(x, "p NOT q NOT r", "1 9");
        DUE.finds(x, "p NOT (q NOT r)", "1 5 7 9 13 15");
        DUE.finds(x, "p OR q NOT r", "1 2 3 5 7 9 10 11 13 15");
        DUE.finds(x, "(p OR q) NOT r", "1 2 3 9 10 11");
        DUE.finds(x, "(p OR q)(r OR s)", "5 6 7 9 10 11 13 14 15");
        DUE.finds(x, "(p)q(((r)))", "7 15");
        DUE.finds(x, "p NOT p", "");
        DUE.finds(x, "x NOT p", "");
        DUE.finds(x, "p NOT x", "1 3 5 7 9 11 13 15");
    }

    private static void filters() {
        PhraseShelf x = shelf();
        DUE.finds(x, "a:cat", "1");
        DUE.finds(x, "b:cat", "2 3");
        DUE.finds(x, "-a:cat", "2 3");
        DUE.finds(x, "-b:cat", "1");
        DUE.finds(x, "- b:cat", "1");
        DUE.finds(x, "a: cat", "1");
        DUE.finds(x, "a:b:cat", "");
        DUE.finds(x, "a:-b:cat", "1");
        DUE.finds(x, "-a:b:cat", "2 3");
        DUE.finds(x, "a:a:cat", "1");
        DUE.finds(x, "a:cat dog", "1");
        DUE.finds(x, "a:red dog", "1 2");
        DUE.finds(x, "a:(red dog)", "2");
        DUE.finds(x, "a:(red b:dog)", "");
        DUE.finds(x, "b:(cat OR a:dog)", "2 3");
        DUE.finds(x, "red NOT a:red", "3");
        DUE.finds(x, "cat a:dog", "2");
        DUE.finds(x, "cat b:dog", "1");
        DUE.finds(x, "cat -b:dog", "2");
        DUE.finds(x, "a:NEAR(red dog)", "2");
        DUE.finds(x, "b:NEAR(red dog)", "");
        DUE.finds(x, "a:\"red cat\"", "1");
        DUE.finds(x, "a:a", "");
        DUE.finds(x, "b:a", "1");
    }

    private static void near() {
        PhraseShelf x = new PhraseShelf();
        Due.insert(x, "p 1 2 3 q", "r");
        Due.insert(x, "q p", "p");
        Due.insert(x, "p", "q");
        Due.insert(x, "p 1 2 3 4 5 6 7 8 9 10 q", "");
        Due.insert(x, "p 1 2 3 4 5 6 7 8 9 10 11 q", "");
        Due.insert(x, "", "p 1 q 2 3 r");
        DUE.finds(x, "NEAR(p q, 2)", "2 6");
        DUE.finds(x, "NEAR(p q, 3)", "1 2 6");
        DUE.finds(x, "NEAR(q p, 3)", "1 2 6");
        DUE.finds(x, "NEAR(p q,0)", "2");
        DUE.finds(x, "NEAR(p q,00)", "2");
        DUE.finds(x, "NEAR(p q)", "1 2 4 6");
        DUE.finds(x, "NEAR ( p q , 10 )", "1 2 4 6");
        DUE.finds(x, "NEAR(p q, 9)", "1 2 6");
        DUE.finds(x, "NEAR(p q, 09)", "1 2 6");
        DUE.finds(x, "NEAR(p q, 11)", "1 2 4 5 6");
        DUE.finds(x, "NEAR(p q, 99)", "1 2 4 5 6");
        DUE.finds(x, "NEAR(p q r, 3)", "");
        DUE.finds(x, "NEAR(p q r, 4)", "6");
        DUE.finds(x, "NEAR(p)", "1 2 3 4 5 6");
        DUE.finds(x, "NEAR(p p, 0)", "1 2 3 4 5 6");
        DUE.finds(x, "NEAR(p, 0)", "1 2 3 4 5 6");
        DUE.finds(x, "NEAR(p \"\")", "");
        DUE.finds(x, "NEAR(p 7*, 6)", "4 5");
        DUE.finds(x, "NEAR(p 7*, 5)", "");
        DUE.finds(x, "NEAR(p 5 10 q)", "4");
        DUE.finds(x, "NEAR(p q 5)", "4");
        DUE.finds(x, "NEAR(p q) NEAR(r)", "1 6");
        DUE.finds(x, "NEAR(p q, 3)r", "1 6");
    }

    private static void nearOfLongPhrases() {
        PhraseShelf x = new PhraseShelf();
        Due.insert(x, "a b c d e f g h i j k l m n o p q r s t u v w x", "");
        Due.insert(x, "p z z z z p q", "");
        DUE.finds(x, "NEAR(\"a b c\" e, 0)", "");
        DUE.finds(x, "NEAR(\"a b c\" e, 1)", "1");
        DUE.finds(x, "NEAR(\"a b c\" \"b c d e\", 0)", "1");
        DUE.finds(x, "NEAR(\"a b c d e\" b d, 0)", "");
        DUE.finds(x, "NEAR(\"a b c d e\" b d, 1)", "1");
        DUE.finds(x, "NEAR(\"a b c d e\" f, 0)", "1");
        DUE.finds(x, "NEAR(a x, 22)", "1");
        DUE.finds(x, "NEAR(a x, 21)", "");
        DUE.finds(x, "NEAR(p q, 0)", "1 2");
        DUE.finds(x, "NEAR(p \"z z\" q, 1)", "2");
        DUE.finds(x, "NEAR(p \"z z\" q, 0)", "");
    }

    private static void depthAndPhrases() {
        PhraseShelf x = shelf();
        DUE.finds(x, "((((((((cat))))))))", "1 2 3");
        DUE.finds(x, "b:b:b:b:b:b:b:b:cat", "2 3");
        DUE.finds(x, "(((-a:(-a:(b:cat)))))", "2 3");
        DUE.finds(x, "((((((((cat)))))))) (((((((b:dog)))))))", "1");
        DUE.finds(x, "((((((((NEAR(cat))))))))) a:a:dog", "2");
        DUE.finds(x, "cat cat cat cat cat cat cat cat cat cat cat cat", "1 2 3");
        DUE.finds(x, "NEAR(cat the the the the the the the the the) red dog", "1 2");
        DUE.finds(x, "a+a+a+a+a+a+a+a+a+a+a+a+a+a OR cat", "1 2 3");
        DUE.same("phrases", x.count(6), 2);
        DUE.finds(x, "a OR b OR c OR d OR e OR f OR g OR h OR i OR j OR k OR cat", "1 2 3");
        DUE.same("twelve phrases", x.count(6), 12);
        DUE.same("48 tokens", Due.ask(x, "\"" + "a ".repeat(47) + "\""), 0);
        DUE.same("96 letters", Due.ask(x, "a".repeat(96)), 0);
    }

    private static void answersStay() {
        PhraseShelf x = shelf();
        DUE.finds(x, "cat", "1 2 3");
        DUE.wrongAt(x, "dog AND", 7);
        DUE.same("answers stay", x.count(5), 3);
        DUE.same("the second", x.answer(1, false), 2);
        DUE.wrongAt(x, "", 0);
        DUE.same("answers stay again", x.count(5), 3);
        DUE.finds(x, "42", "3");
        DUE.same("the next good one", x.answer(0, true), 3);
        DUE.refused("answer(1, true)", IndexOutOfBoundsException.class, () -> x.answer(1, true));
    }

    private static void answersAreOfThatTime() {
        PhraseShelf x = shelf();
        Due.ask(x, "cat");
        double first = x.score(0, true);
        x.delete(1);
        x.delete(2);
        x.weight(0, 9);
        Due.texts(x, "owl", "");
        x.replace(3);
        DUE.same("answers", x.count(5), 3);
        DUE.same("the first", x.answer(0, false), 1);
        DUE.same("the third", x.answer(2, false), 3);
        DUE.sameReal("its score", x.score(0, true), first);
        DUE.finds(x, "cat", "");
        DUE.finds(x, "owl", "3");
    }

    private static void draftIsEmpty() {
        PhraseShelf x = shelf();
        Due.ask(x, "cat");
        DUE.same("behind a good one", x.count(8), 0);
        DUE.wrongAt(x, "cat )", 4);
        DUE.same("behind a wrong one", x.count(8), 0);
        DUE.same("letters", x.letters('c'), 1);
    }
}
