/** The edges of promise 15 and of what the terms say of questions that are good: which rows are found. */
public final class QuestionsEdgesTest {
    private static final Due DUE = new Due("QuestionsEdgesTest");
    private static final String FILLERS = " 0 1 2 3 4 5 6 7 8 9 a b c d e f g h i j k l m";

    public static void main(String[] args) {
        everyLetterBetweenQuotes();
        longStrings();
        wordsThatAreNoStrings();
        blanks();
        phrasesWithoutTokens();
        phrasesFromOneTokenToAsManyAsCanBe();
        beginningsOfEveryLength();
        beginningOfTheLastAlone();
        firstPlaceAlone();
        everyNearNumber();
        nearWithoutANumberIsTen();
        nearOfOneAndOfTwelve();
        nearInOneColumn();
        nearTakesTheBestPlaces();
        filtersLetOneBothOrNoneThrough();
        twelvePhrases();
        eightDeep();
        depthIsGivenBack();
        whatBindsCloser();
        findsNoneOneAndAll();
        answersStayUntilTheNextGoodOne();
        rowsAsTheyAreNow();
        draftOf96();
        asManyTokensAsCanBe();
        DUE.end();
    }

    private static PhraseShelf with(String... texts) {
        PhraseShelf x = new PhraseShelf();
        for (String text : texts) {
            Due.insert(x, text, "");
        }
        return x;
    }

    /** Between quotes every letter but " may stand; those of no token part the others. */
    private static void everyLetterBetweenQuotes() {
        for (char c = 32; c <= 126; c++) {
            if (c == '"') {
                continue;
            }
            boolean word = Character.isLetterOrDigit(c);
            PhraseShelf x = with("p q", "p", "p" + c + "q", "r" + c);
            DUE.finds(x, "\"p" + c + "q\"", word ? "3" : "1 3");
            DUE.finds(x, "\"" + c + " p\"", word ? "" : "1 2 3");
            DUE.finds(x, "\"r" + c + "\"", "4");
        }
        PhraseShelf x = with("p q");
        DUE.finds(x, "\"!#$%&'()*+,-./p:;<=>?@[\\]^_`{|}~q\"", "1");
        DUE.finds(x, "\"NEAR(p\"", "");
        DUE.finds(x, "\"p OR x\"", "");
    }

    private static void longStrings() {
        for (int length = 1; length <= 48; length++) {
            PhraseShelf x = with("p".repeat(length));
            DUE.finds(x, "p".repeat(length), "1");
            DUE.finds(x, "p".repeat(length) + "p", "");
            DUE.finds(x, "P".repeat(length), "1");
        }
        PhraseShelf x = with("p");
        DUE.finds(x, "p".repeat(96), "");
        DUE.finds(x, "\"" + "p".repeat(94) + "\"", "");
        DUE.finds(x, "\"" + " ".repeat(46) + "p" + " ".repeat(47) + "\"", "1");
    }

    private static void wordsThatAreNoStrings() {
        PhraseShelf x = with("and or not near", "p");
        for (String word : new String[] {"AND", "OR", "NOT", "NEAR"}) {
            String small = word.toLowerCase(java.util.Locale.ROOT);
            String mixed = word.charAt(0) + small.substring(1);
            DUE.finds(x, small, "1");
            DUE.finds(x, mixed, "1");
            DUE.finds(x, "\"" + word + "\"", "1");
            DUE.finds(x, "p OR \"" + word + "\"", "1 2");
            DUE.finds(x, word + "S", "");
            DUE.finds(x, "p OR " + word + "S", "2");
            DUE.finds(x, "p OR S" + word, "2");
            DUE.finds(x, "p OR " + word + "1", "2");
            DUE.finds(x, word.substring(0, word.length() - 1) + "*", "1");
            DUE.finds(x, "\"" + word + "\"*", "1");
        }
        DUE.finds(x, "and+or+not+near", "1");
    }

    private static void blanks() {
        PhraseShelf x = with("p q r", "q");
        String[] same = {"NEAR(p+q*,5)NOT(a:s)OR-b:^q", " NEAR ( p + q * , 5 ) NOT ( a: s ) OR - b: ^ q ",
            "NEAR(  p   +q  *  ,  5  )NOT(a:  s)OR  -  b:^   q"};
        for (String question : same) {
            DUE.finds(x, question, "1 2");
        }
        DUE.finds(x, "(p)(q)", "1");
        DUE.finds(x, "\"p\"\"q\"", "1");
        DUE.finds(x, "p\"q\"r", "1");
        DUE.finds(x, "p*q*", "1");
        DUE.finds(x, "^p^q", "");
        DUE.finds(x, "p-b:q", "1");
        DUE.finds(x, "p a:q", "1");
        DUE.finds(x, "\"p\"a:q", "1");
    }

    private static void phrasesWithoutTokens() {
        PhraseShelf x = with("p q", "");
        for (String none : new String[] {"\"\"", "\" \"", "\"?!\"", "\"\"+\"\"", "\"\"*", "\"-\"+\"\"*"}) {
            DUE.finds(x, none, "");
            DUE.finds(x, "^" + none, "");
            DUE.finds(x, "NEAR(" + none + ")", "");
            DUE.finds(x, "NEAR(p " + none + ",9)", "");
            DUE.finds(x, "p " + none, "");
            DUE.finds(x, "p NOT " + none, "1");
            DUE.finds(x, "p OR " + none, "1");
            DUE.finds(x, "a:" + none, "");
        }
        DUE.finds(x, "\"\"+p", "1");
        DUE.finds(x, "p+\"\"+q", "1");
        DUE.finds(x, "^\"\"+p", "1");
        DUE.finds(x, "^\"\"+q", "");
        DUE.finds(x, "p+\"\"*", "1");
    }

    /** Phrases of 1 to 24 tokens at every place of a text of 24, and one that is too long for it. */
    private static void phrasesFromOneTokenToAsManyAsCanBe() {
        String text = "a b c d e f g h i j k l m n o p q r s t u v w x";
        for (int size = 1; size <= 24; size++) {
            PhraseShelf x = with(text);
            for (int from = 0; from + size <= 24; from += 1 + size / 8) {
                String phrase = text.substring(2 * from, 2 * (from + size) - 1);
                DUE.finds(x, "\"" + phrase + "\"", "1");
                DUE.same("^ at " + from, Due.ask(x, "^\"" + phrase + "\""), from == 0 ? 1 : 0);
                DUE.same("and one behind it", Due.ask(x, "\"" + phrase + " z\""), 0);
            }
        }
        PhraseShelf x = with(text);
        DUE.finds(x, "\"" + text + "\"", "1");
        DUE.finds(x, "\"" + text + " a\"", "");
        DUE.finds(x, "\"w x\"", "1");
        DUE.finds(x, "\"x y\"", "");
        DUE.finds(x, "\"a c\"", "");
        DUE.finds(x, "\"b a\"", "");
        DUE.finds(x, "a+b+c+d+e+f+g+h+i+j+k+l+m+n+o+p+q+r+s+t+u+v+w+x", "1");
        DUE.finds(x, "a+b+c+d+e+f+g+h+i+j+k+l+m+n+o+p+q+r+s+t+u+v+w+x+y", "");
        DUE.same("one phrase", x.count(6), 1);
        DUE.finds(with("p p p"), "p+p+p", "1");
        DUE.finds(with("p p p"), "p+p+p+p", "");
        PhraseShelf y = new PhraseShelf();
        Due.insert(y, "p", "q");
        DUE.finds(y, "p+q", "");
        DUE.finds(y, "\"q p\"", "");
    }

    private static void beginningsOfEveryLength() {
        String word = "abcdefghijklmnop";
        PhraseShelf x = with(word, "x" + word, "abx");
        for (int length = 1; length <= word.length(); length++) {
            DUE.finds(x, word.substring(0, length) + "*", length <= 2 ? "1 3" : "1");
            DUE.finds(x, word.substring(0, length), length == word.length() ? "1" : "");
        }
        DUE.finds(x, word + "q*", "");
        DUE.finds(x, "b*", "");
        DUE.finds(x, "ABX*", "3");
    }

    private static void beginningOfTheLastAlone() {
        PhraseShelf x = with("pp qq", "p q", "pp q");
        DUE.finds(x, "\"p q\"*", "2");
        DUE.finds(x, "\"pp q\"*", "1 3");
        DUE.finds(x, "pp+q*", "1 3");
        DUE.finds(x, "pp+qq*", "1");
        DUE.finds(x, "pp+q", "3");
        DUE.finds(x, "pp*", "1 3");
        DUE.finds(x, "pp* q", "3");
        DUE.finds(x, "^q*", "");
        DUE.finds(x, "^p*", "1 2 3");
        DUE.finds(x, "NEAR(p* q*, 0)", "1 2 3");
        DUE.finds(x, "NEAR(p* q, 0)", "2 3");
    }

    private static void firstPlaceAlone() {
        PhraseShelf x = new PhraseShelf();
        Due.insert(x, "p q", "");
        Due.insert(x, "q p", "");
        Due.insert(x, "", "p");
        Due.insert(x, "q", "q p");
        Due.insert(x, "--p", "");
        Due.insert(x, "q p p", "p q");
        DUE.finds(x, "^p", "1 3 5 6");
        DUE.finds(x, "a:^p", "1 5");
        DUE.finds(x, "b:^p", "3 6");
        DUE.finds(x, "p NOT ^p", "2 4");
        DUE.finds(x, "^p+q", "1 6");
        DUE.finds(x, "^q+p", "2 4 6");
    }

    /** Row g + 1 has g tokens between p and q: it is found by each number that is g or more. */
    private static void everyNearNumber() {
        for (int number = 0; number <= 99; number++) {
            for (String digits : new String[] {"" + number, (number < 10 ? "0" : "") + number}) {
                PhraseShelf x = gaps();
                int want = Math.min(number, 22) + 1;
                DUE.same("NEAR(p q," + digits + ")", Due.ask(x, "NEAR(p q," + digits + ")"), want);
                DUE.same("NEAR(q p, " + digits + ")", Due.ask(x, "NEAR(q p, " + digits + ")"), want);
                DUE.same("the last of them", x.answer(want - 1, false), want);
            }
        }
    }

    private static PhraseShelf gaps() {
        PhraseShelf x = new PhraseShelf();
        x.ways(3, 200);
        for (int gap = 0; gap <= 22; gap++) {
            Due.insert(x, "p" + FILLERS.substring(0, 2 * gap) + " q", "");
        }
        return x;
    }

    private static void nearWithoutANumberIsTen() {
        PhraseShelf x = gaps();
        DUE.same("NEAR(p q)", Due.ask(x, "NEAR(p q)"), 11);
        DUE.same("the last has 10 between", x.look(x.answer(10, false), 0), 12);
        DUE.same("NEAR(p q,10)", Due.ask(x, "NEAR(p q,10)"), 11);
        DUE.same("NEAR(p q,9)", Due.ask(x, "NEAR(p q,9)"), 10);
        DUE.same("NEAR(p q,11)", Due.ask(x, "NEAR(p q,11)"), 12);
        DUE.same("NEAR(p q 11): 11 is a phrase", Due.ask(x, "NEAR(p q 11)"), 0);
        DUE.same("three phrases", x.count(6), 3);
    }

    private static void nearOfOneAndOfTwelve() {
        PhraseShelf x = with("a b c d e f g h i j k l", "a", "x a");
        DUE.finds(x, "NEAR(a)", "1 2 3");
        DUE.finds(x, "NEAR(a,0)", "1 2 3");
        DUE.finds(x, "NEAR(\"a b c d e f\",0)", "1");
        DUE.finds(x, "NEAR(a b c d e f g h i j k l,10)", "1");
        DUE.same("twelve phrases", x.count(6), 12);
        DUE.finds(x, "NEAR(a b c d e f g h i j k l,9)", "");
        DUE.finds(x, "NEAR(l k j i h g f e d c b a)", "1");
        DUE.finds(x, "NEAR(a a a a a a a a a a a a,0)", "1 2 3");
        DUE.finds(x, "NEAR(a z)", "");
    }

    private static void nearInOneColumn() {
        PhraseShelf x = new PhraseShelf();
        Due.insert(x, "p", "q");
        Due.insert(x, "p q", "");
        Due.insert(x, "", "q p");
        Due.insert(x, "p 1 2 q", "p 1 q");
        DUE.finds(x, "NEAR(p q,99)", "2 3 4");
        DUE.finds(x, "a:NEAR(p q,99)", "2 4");
        DUE.finds(x, "b:NEAR(p q,99)", "3 4");
        DUE.finds(x, "NEAR(p q,1)", "2 3 4");
        DUE.finds(x, "a:NEAR(p q,1)", "2");
        DUE.finds(x, "a:b:NEAR(p q,99)", "");
    }

    private static void nearTakesTheBestPlaces() {
        PhraseShelf x = with("p 1 2 3 q p", "p 1 q 2 3 r p q r", "r 1 p 2 3 4 q", "p q r p q r");
        DUE.finds(x, "NEAR(p q,0)", "1 2 4");
        DUE.finds(x, "NEAR(p q r,1)", "2 4");
        DUE.finds(x, "NEAR(p q r,0)", "");
        DUE.finds(x, "NEAR(\"p q\" r,0)", "2 4");
        DUE.finds(x, "NEAR(\"p q r\" q,0)", "2 4");
        DUE.finds(x, "NEAR(\"p q r p q\" \"q r\",0)", "4");
        DUE.finds(x, "NEAR(r q,4)", "2 4");
        DUE.finds(x, "NEAR(r q,5)", "2 3 4");
        DUE.finds(with("p q p q"), "NEAR(\"p q\" \"q p\",0)", "1");
        DUE.finds(with("a b c d e"), "NEAR(\"a b\" \"d e\",0)", "");
        DUE.finds(with("a b c d e"), "NEAR(\"a b\" \"d e\",1)", "1");
        DUE.finds(with("a b c d e"), "NEAR(\"a b\" \"d e\" c,1)", "1");
        DUE.finds(with("a b c d e"), "NEAR(\"a b c d e\" a e,2)", "");
        DUE.finds(with("a b c d e"), "NEAR(\"a b c d e\" a e,3)", "1");
        DUE.finds(with("a b c d e"), "NEAR(\"a b c d e\" e,0)", "1");
    }

    private static void filtersLetOneBothOrNoneThrough() {
        PhraseShelf x = new PhraseShelf();
        Due.insert(x, "p", "");
        Due.insert(x, "", "p");
        Due.insert(x, "p", "p");
        Due.insert(x, "", "");
        DUE.finds(x, "p", "1 2 3");
        String[] first = {"a:", "-b:", "- b:", "a:a:", "a:-b:", "-b:a:", "-b:-b:"};
        String[] second = {"b:", "-a:", "- a:", "b:b:", "b:-a:", "-a:b:", "-a:-a:"};
        String[] none = {"a:b:", "b:a:", "a:-a:", "-a:a:", "-a:-b:", "b:-b:", "a:a:b:"};
        for (int i = 0; i < first.length; i++) {
            DUE.finds(x, first[i] + "p", "1 3");
            DUE.finds(x, second[i] + "p", "2 3");
            DUE.finds(x, none[i] + "p", "");
            DUE.finds(x, "p NOT " + none[i] + "p", "1 2 3");
            DUE.finds(x, first[i] + "(" + second[i] + "p OR p)", "1 3");
            DUE.finds(x, "p NOT " + first[i] + "p", "2");
            DUE.finds(x, first[i] + "p p", "1 3");
            DUE.finds(x, first[i] + "p " + second[i] + "p", "3");
        }
        DUE.finds(x, "a:p OR p", "1 2 3");
        DUE.finds(x, "a:(p OR p)", "1 3");
        DUE.finds(x, "a:(p) p", "1 3");
        DUE.finds(x, "b:(p NOT a:p)", "2 3");
    }

    private static void twelvePhrases() {
        PhraseShelf x = with("p", "q");
        for (String word : new String[] {" ", " AND ", " OR "}) {
            for (int size = 1; size <= 12; size++) {
                StringBuilder question = new StringBuilder("p");
                for (int i = 1; i < size; i++) {
                    question.append(word).append("p");
                }
                DUE.finds(x, question.toString(), "1");
                DUE.same("phrases", x.count(6), size);
            }
        }
        DUE.finds(x, "p NOT q NOT q NOT q NOT q NOT q NOT q NOT q NOT q NOT q NOT q NOT q", "1");
        DUE.same("twelve with NOT", x.count(6), 12);
        DUE.finds(x, "p+p+p+p+p+p+p+p+p+p+p+p+p+p OR q", "2");
        DUE.same("strings are not phrases", x.count(6), 2);
        DUE.finds(x, "NEAR(p p p p p p)^p p*\"p\"(p)a:p p", "1");
        DUE.same("twelve of all kinds", x.count(6), 12);
    }

    /** All 3 to the power of 8 ways to be eight deep by ( and by filters, one of each side by side. */
    private static void eightDeep() {
        String[] kinds = {"(", "b:", "-a:"};
        PhraseShelf x = new PhraseShelf();
        Due.insert(x, "q", "p");
        for (int way = 0; way < 6561; way++) {
            StringBuilder question = new StringBuilder();
            StringBuilder end = new StringBuilder();
            int rest = way;
            for (int i = 0; i < 8; i++) {
                question.append(kinds[rest % 3]);
                end.append(rest % 3 == 0 ? ")" : "");
                rest /= 3;
            }
            if (way % 60 == 0) {
                x = new PhraseShelf();
                Due.insert(x, "q", "p");
            }
            DUE.same("ask <" + question + "p" + end + ">", Due.ask(x, question + "p" + end), 1);
        }
        DUE.finds(with("p"), "((((((((NEAR(p p,0)))))))))", "1");
        DUE.finds(with("p"), "((((((((^p))))))))", "1");
    }

    private static void depthIsGivenBack() {
        PhraseShelf x = new PhraseShelf();
        Due.insert(x, "p", "p");
        DUE.finds(x, "((((((((p)))))))) ((((((((p))))))))", "1");
        DUE.finds(x, "a:a:a:a:a:a:a:a:p b:b:b:b:b:b:b:b:p", "1");
        DUE.finds(x, "a:a:a:a:a:a:a:a:p OR ((((((((p))))))))", "1");
        DUE.finds(x, "(((((((a:p b:p -a:p (p) (p))))))))", "1");
        DUE.finds(x, "((((a:a:a:a:p (a:a:a:p)) b:b:b:b:b:p)))", "1");
        DUE.finds(x, "a:a:a:a:((((p)))) (((((((-b:p)))))))", "1");
        DUE.finds(x, "NEAR(p) ((((((((p))))))))", "1");
        DUE.finds(x, "(p)(p)(p)(p)(p)(p)(p)(p)(p)(p)", "1");
        DUE.finds(x, "a:p b:p a:p b:p a:p b:p a:p b:p a:p b:p", "1");
    }

    private static void whatBindsCloser() {
        PhraseShelf x = with("p", "q", "r", "p q", "p r", "q r", "p q r");
        DUE.finds(x, "p OR q AND r", "1 4 5 6 7");
        DUE.finds(x, "p AND q OR r", "3 4 5 6 7");
        DUE.finds(x, "p AND q NOT r", "4");
        DUE.finds(x, "p NOT q AND r", "5");
        DUE.finds(x, "p NOT q r", "1 4 5");
        DUE.finds(x, "p q NOT r", "4");
        DUE.finds(x, "p NOT q NOT r", "1");
        DUE.finds(x, "p OR q NOT r", "1 2 4 5 7");
        DUE.finds(x, "p NOT q OR r", "1 3 5 6 7");
        DUE.finds(x, "p OR q r", "1 4 5 6 7");
        DUE.finds(x, "p q OR r", "3 4 5 6 7");
        DUE.finds(x, "a:p OR q", "1 2 4 5 6 7");
        DUE.finds(x, "b:p OR q", "2 4 6 7");
        DUE.finds(x, "b:p q", "");
        DUE.finds(x, "p NOT b:q r", "1 4 5 7");
        DUE.finds(x, "(p OR q) NOT r", "1 2 4");
        DUE.finds(x, "p NOT (q NOT r)", "1 5 7");
    }

    private static void findsNoneOneAndAll() {
        for (int rows = 0; rows <= 24; rows++) {
            PhraseShelf x = new PhraseShelf();
            Due.texts(x, "p", "q");
            for (int r = 1; r <= rows; r++) {
                x.insert();
            }
            DUE.same("all of " + rows, Due.ask(x, "p"), rows);
            for (int k = 0; k < rows; k++) {
                DUE.same("answer " + k, x.answer(k, false), k + 1);
            }
            DUE.same("none of " + rows, Due.ask(x, "p NOT q"), 0);
            DUE.same("no answers", x.count(5), 0);
        }
        PhraseShelf x = with("p", "q", "r");
        DUE.finds(x, "q", "2");
        DUE.finds(x, "s", "");
    }

    private static void answersStayUntilTheNextGoodOne() {
        PhraseShelf x = with("p", "q", "p q");
        DUE.finds(x, "p", "1 3");
        String[] bad = {"", " ", "q OR", "(q", "c:q", "q q q q q q q q q q q q q", "(((((((((q)))))))))"};
        for (String question : bad) {
            Due.type(x, question);
            DUE.refused("ask <" + question + ">", IllegalArgumentException.class, x::ask);
            DUE.same("answers", x.count(5), 2);
            DUE.same("the last", x.answer(1, false), 3);
            DUE.same("phrases", x.count(6), 1);
            DUE.same("the draft is empty", x.count(8), 0);
        }
        DUE.finds(x, "s OR s", "");
        DUE.same("phrases of one that finds nothing", x.count(6), 2);
        DUE.refused("no answers", IndexOutOfBoundsException.class, () -> x.answer(0, false));
        DUE.wrongAt(x, "q )", 2);
        DUE.same("no answers stay too", x.count(5), 0);
    }

    private static void rowsAsTheyAreNow() {
        PhraseShelf x = with("p", "p");
        DUE.finds(x, "p", "1 2");
        x.delete(1);
        DUE.same("answers stay", x.count(5), 2);
        DUE.same("the deleted row too", x.answer(0, false), 1);
        DUE.finds(x, "p", "2");
        Due.texts(x, "q", "p");
        x.replace(2);
        DUE.finds(x, "a:p", "");
        DUE.finds(x, "b:p", "2");
        x.flush();
        DUE.finds(x, "b:p", "2");
        x.optimize();
        DUE.finds(x, "b:p", "2");
    }

    /** A question may be as long as the draft. */
    private static void draftOf96() {
        PhraseShelf x = with("p");
        DUE.finds(x, "p" + " ".repeat(95), "1");
        DUE.finds(x, " ".repeat(95) + "p", "1");
        DUE.finds(x, "p" + " ".repeat(90) + "OR  p", "1");
        DUE.finds(x, "p" + "+\"\"".repeat(31) + "* ", "1");
        DUE.finds(x, "\"p\"" + "+\"p\"".repeat(23) + "*", "");
        DUE.finds(x, "(" + " ".repeat(93) + "p)", "1");
        DUE.finds(x, "p" + "+p".repeat(47), "");
        DUE.finds(x, "p" + "+p".repeat(47) + "*", "");
    }

    /** Twelve phrases of four tokens, 48 in all: each of them counts, the last one too. */
    private static void asManyTokensAsCanBe() {
        String four = "p+q+r+s";
        for (int other = 0; other < 12; other++) {
            for (int token = 0; token < 4; token++) {
                StringBuilder question = new StringBuilder();
                for (int i = 0; i < 12; i++) {
                    String phrase = i == other ? four.substring(0, 2 * token) + "t" + four.substring(2 * token + 1) : four;
                    question.append(i == 0 ? "" : " ").append(phrase);
                }
                PhraseShelf x = with("p q r s", "p q r s t q r s p t r s p q t s p q r t");
                DUE.finds(x, question.toString(), "2");
                DUE.finds(x, question + "*", "2");
            }
        }
        PhraseShelf x = with("p q r s", "p q r st");
        DUE.finds(x, (four + " ").repeat(12), "1");
        DUE.finds(x, (four + " ").repeat(11) + four + "*", "1");
        DUE.finds(x, (four + "*").repeat(12), "1 2");
    }
}
