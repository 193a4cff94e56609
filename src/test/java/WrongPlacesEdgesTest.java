/** The edges of promise 16 and of what the terms say of the wrong place, of twelve phrases and of eight deep. */
public final class WrongPlacesEdgesTest {
    private static final Due DUE = new Due("WrongPlacesEdgesTest");
    private static final String TWELVE = "p p p p p p p p p p p p ";

    public static void main(String[] args) {
        latestOne();
        everyLetterAlone();
        everyLetterBehindAPhrase();
        everyLetterInNear();
        theEndAtEveryLength();
        stringsWithoutTheirEnd();
        asManyPartsAsCanBe();
        everyNumber();
        filterNames();
        stringsBehindMinus();
        colonDirectlyBehind();
        nineDeep();
        nineDeepOfAllKinds();
        theThirteenthPhrase();
        limitsBeforeOtherFaults();
        emptyAndBlank();
        starsAndPluses();
        unclosedAndUnopened();
        DUE.end();
    }

    private static void at(String question, int want) {
        DUE.wrongAt(new PhraseShelf(), question, want);
    }

    private static void good(String question) {
        DUE.finds(new PhraseShelf(), question, "");
    }

    private static void latestOne() {
        PhraseShelf x = new PhraseShelf();
        DUE.same("there was none", x.wrong(), -1);
        Due.type(x, ")");
        DUE.same("a draft alone is no question", x.wrong(), -1);
        DUE.refused("ask", IllegalArgumentException.class, x::ask);
        DUE.same("the first letter", x.wrong(), 0);
        DUE.refused("ask of the empty draft", IllegalArgumentException.class, x::ask);
        DUE.same("the end of it", x.wrong(), 0);
        DUE.wrongAt(x, "p ( (", 5);
        x.insert();
        x.flush();
        x.begin();
        x.rollback();
        DUE.same("other calls leave it", x.wrong(), 5);
        DUE.finds(x, "p", "");
        DUE.same("a good one", x.wrong(), -1);
        DUE.wrongAt(x, "p?", 1);
        DUE.wrongAt(x, "p p?", 3);
    }

    private static boolean isWord(char c) {
        return Character.isLetterOrDigit(c);
    }

    private static void everyLetterAlone() {
        for (char c = 32; c <= 126; c++) {
            String question = "" + c;
            if (isWord(c)) {
                good(question);
            } else if (" (^-".indexOf(c) >= 0) {
                at(question, 1);
            } else {
                at(question, 0);
            }
        }
    }

    private static void everyLetterBehindAPhrase() {
        for (char c = 32; c <= 126; c++) {
            String question = "p" + c;
            if (isWord(c) || c == ' ' || c == '*') {
                good(question);
                good("p " + c);
            } else if ("(^-+".indexOf(c) >= 0) {
                at(question, 2);
                at("p " + c, 3);
            } else {
                at(question, c == ':' ? 0 : 1);
                at("p " + c, 2);
            }
        }
    }

    private static void everyLetterInNear() {
        for (char c = 32; c <= 126; c++) {
            String question = "NEAR(p " + c;
            if (isWord(c) || " *+,)".indexOf(c) >= 0) {
                boolean whole = c == ')';
                if (whole) {
                    good(question);
                } else {
                    at(question, 8);
                }
            } else {
                at(question, 7);
            }
        }
    }

    /** A question that lacks its end: the place is how many letters there are, blanks too. */
    private static void theEndAtEveryLength() {
        for (String front : new String[] {"p OR", "p AND", "p NOT", "p +", "(p", "^", "-", "a:", "NEAR(p", "NEAR(p,",
            "NEAR(p,9", "NEAR", "NEAR(", "(", "-a:", "(p OR (p", "a:(p"}) {
            for (int length = front.length(); length <= 96; length += 1 + length / 12) {
                at(front + " ".repeat(length - front.length()), length);
            }
            at(front + " ".repeat(96 - front.length()), 96);
        }
    }

    private static void stringsWithoutTheirEnd() {
        for (int place = 0; place <= 95; place += 5) {
            at(" ".repeat(place) + "\"" + "p".repeat(95 - place), place);
        }
        at(" ".repeat(95) + "\"", 95);
        at("\"p\" \"q\" \"r", 8);
        at("\"p\"\"", 3);
        at("p+\"", 2);
        at("NEAR(\"p)", 5);
        at("NEAR(p,\"5)", 7);
        at("NEAR(p,5\")", 8);
        at("(\"p)", 1);
        at("^\"p", 1);
        at("-\"p", 1);
        at("a:\"p", 2);
        at("p OR \"q OR r", 5);
        at("p ) \"", 2);
        good("\"\"");
        good("\"p\"\"q\"");
    }

    /** 96 letters of which each is a part: what is wrong is told at the last one and at the end too. */
    private static void asManyPartsAsCanBe() {
        String pluses = "p+".repeat(47);
        good(pluses + "p");
        good(pluses + "p*");
        at(pluses + "p+", 96);
        at(pluses + "p\"", 95);
        at(pluses + "p)", 95);
        at(pluses + "p?", 95);
        at(pluses + "p(", 96);
        at(pluses + "p-", 96);
        at(pluses + "p^", 96);
        at(pluses + "p:", 94);
        at(pluses + "++", 94);
        good(pluses + "\"\"");
        at(pluses + "\"p", 94);
        for (char c : "+*:,)^-(?\"".toCharArray()) {
            at("+".repeat(95) + c, 0);
            at(("" + c).repeat(96), c == '(' ? 8 : c == '^' || c == '-' ? 1 : c == '"' ? 24 : 0);
        }
    }

    private static void everyNumber() {
        for (int number = 0; number <= 120; number++) {
            String question = "NEAR(p q," + number + ")";
            if (number < 100) {
                good(question);
            } else {
                at(question, 9);
            }
        }
        for (String bad : new String[] {"000", "001", "1a", "a1", "a", "\"1\"", "\"\"", "AND", "-1", "+1", "1234567890",
            "99999999999", "(1)", "^1", "*", ",", ":", ")", "?", "OR", "NEAR"}) {
            at("NEAR(p," + bad + ")", 7);
            at("NEAR(p, " + bad + ")", 8);
        }
        for (String more : new String[] {" 2", ",2", "*", "+2", "(", "\"2\"", " p", "?", " :", ":", " OR"}) {
            int place = more.charAt(0) == ' ' ? 9 : 8;
            at("NEAR(p,1" + more + ")", place);
        }
        good("NEAR(p,0)");
        good("NEAR(p,00)");
        good("NEAR(p,09)");
        good("NEAR(p,99)");
        good("NEAR(p , 99 )");
    }

    private static void filterNames() {
        for (char c = '0'; c <= 'z'; c++) {
            if (isWord(c)) {
                if (c == 'a' || c == 'b') {
                    good(c + ":p");
                    good("-" + c + ":p");
                } else {
                    at(c + ":p", 0);
                    at("-" + c + ":p", 1);
                    at("p " + c + ":p", 2);
                    at("(" + c + ":p)", 1);
                    at("a:" + c + ":p", 2);
                }
            }
        }
        for (String name : new String[] {"aa", "ab", "ba", "a1", "1a", "A", "B", "AB", "NEARa"}) {
            at(name + ":p", 0);
            at("-" + name + ":p", 1);
            at("- " + name + ":p", 2);
            at("a:" + name + ":p", 2);
            at("p OR " + name + ":p", 5);
        }
    }

    private static void stringsBehindMinus() {
        for (String behind : new String[] {"a", "b", "p", "a p", "a :p", "\"a\":p", "\"a\"", "5", "c:p", "A:p"}) {
            at("-" + behind, 1);
            at("- " + behind, 2);
            at("p -" + behind, 3);
            at("(-" + behind, 2);
            at("a:-" + behind, 3);
        }
        for (String behind : new String[] {"-a:p", "(p)", "^p", "NEAR(p)", "OR", "AND", "NOT", "*", "+", ":", ",", ")",
            "?", "\"a"}) {
            at("-" + behind, 1);
            at("- " + behind, 2);
        }
        good("-a:p");
        good("- a:p");
        good("-  b: p");
    }

    private static void colonDirectlyBehind() {
        at("a :p", 2);
        at("a : p", 2);
        at("c :p", 2);
        at("\"a\":p", 3);
        at("a: :p", 3);
        at("a::p", 2);
        at("a:", 2);
        at("a:)", 2);
        at("a:OR", 2);
        at("a:+", 2);
        at("^a:p", 1);
        at("NEAR(a:p)", 5);
        at("NEAR(p b:p)", 7);
        at("p a:p:q", 4);
        at("AND:p", 0);
        at("NEAR:p", 4);
        at("(p):q", 3);
        at("p*:q", 2);
        good("a:p");
        good("a: p");
        good("p a:p");
        good("a:a");
        good("a:\"a\"");
        good("a a");
    }

    private static void nineDeep() {
        at("(((((((((", 8);
        at("(((((((((p)))))))))", 8);
        at("a:a:a:a:a:a:a:a:b:p", 16);
        at("a:a:a:a:a:a:a:a:-b:p", 16);
        at("a:a:a:a:a:a:a:a: - b:p", 17);
        at("a:a:a:a:a:a:a:a:(p)", 16);
        at("((((((((a:p))))))))", 8);
        at("((((((((p (p)))))))))", 10);
        at("((((((((p a:p))))))))", 10);
        at("((((((((p OR -a:p))))))))", 13);
        at("((((((((p)))))))) (((((((((p", 26);
        at("((((((((p) (p)))))))) (", 23);
        at("(((((((a:(p", 9);
        at("((((((((NEAR(p) (p", 16);
    }

    /** Eight deep in many ways, and each kind as the ninth. */
    private static void nineDeepOfAllKinds() {
        String[] kinds = {"(", "b:", "-a:", "- b: ", "a:"};
        for (int way = 0; way < 625; way++) {
            StringBuilder front = new StringBuilder("p ");
            int rest = way;
            for (int i = 0; i < 4; i++) {
                front.append(kinds[rest % 5]).append(kinds[(rest + i) % 5]);
                rest /= 5;
            }
            for (String ninth : kinds) {
                at(front + ninth + "p", front.length());
                at(front + " " + ninth, front.length() + 1);
            }
            at(front + ")", front.length());
            at(front + "p ?", front.length() + 2);
        }
    }

    private static void theThirteenthPhrase() {
        good(TWELVE);
        at(TWELVE + "p", 24);
        at(TWELVE + "   p", 27);
        at(TWELVE + "\"p\"", 24);
        at(TWELVE + "\"\"", 24);
        at(TWELVE + "p+p*", 24);
        at(TWELVE + "^p", 25);
        at(TWELVE + "^ p", 26);
        at(TWELVE + "OR p", 27);
        at(TWELVE + "AND p", 28);
        at(TWELVE + "NOT p", 28);
        at(TWELVE + "(p)", 25);
        at(TWELVE + "a:p", 26);
        at(TWELVE + "-a: p", 28);
        at(TWELVE + "NEAR(p)", 29);
        at(TWELVE + "NEAR(p p)", 29);
        at("p p p p p p p p p p p NEAR(p p)", 29);
        at("NEAR(" + TWELVE + "p)", 29);
        at("NEAR(" + TWELVE + ") p", 31);
        good("NEAR(" + TWELVE + ")");
        good("NEAR(" + TWELVE + ",5)");
        good("p p p p p p p p p p p p+p+p+p");
        good("p p p p p p p p p p p NEAR(p)");
        at("p+p p+p p+p p+p p+p p+p p+p p+p p+p p+p p+p p+p p+p", 48);
    }

    /** The first wrong letter is told, whether by a limit or not. */
    private static void limitsBeforeOtherFaults() {
        at(TWELVE + "p ?", 24);
        at(TWELVE + "? p", 24);
        at(TWELVE + ") p", 24);
        at(TWELVE + "p+", 24);
        at(TWELVE + "\"p", 24);
        at(TWELVE + "c:p", 24);
        at(TWELVE + "a :p", 24);
        at(TWELVE + "(((((((((p", 32);
        at(TWELVE + "((((((((p", 32);
        at("(((((((((" + TWELVE + "p", 8);
        at("((((((((p ) (" + TWELVE, 35);
        at("((((((((? (", 8);
        at("((((((((c:p", 8);
        at("(((((((((c:p", 8);
        at("p ) (((((((((", 2);
    }

    private static void emptyAndBlank() {
        for (int length = 0; length <= 96; length++) {
            at(" ".repeat(length), length);
        }
    }

    private static void starsAndPluses() {
        at("*", 0);
        at("p**", 2);
        at("p * *", 4);
        at("p+*", 2);
        at("p*+q", 2);
        at("p +", 3);
        at("p ++ q", 3);
        at("+p", 0);
        at("p + OR", 4);
        at("p + (q)", 4);
        at("p + ^q", 4);
        at("p + NEAR(q)", 4);
        at("p + -a:q", 4);
        at("(p)*", 3);
        at("(p)+q", 3);
        at("NEAR(p)*", 7);
        at("^*", 1);
        at("^+", 1);
        at("^^p", 1);
        at("^(p)", 1);
        at("^NEAR(p)", 1);
        good("p*");
        good("p+q*");
        good("p* q*");
        good("^p+q*");
    }

    private static void unclosedAndUnopened() {
        at(")", 0);
        at("p)", 1);
        at("(p))", 3);
        at("()", 1);
        at("(p", 2);
        at("((p)", 4);
        at("(p OR)", 5);
        at("(OR p)", 1);
        at("p OR OR p", 5);
        at("OR", 0);
        at("AND p", 0);
        at("NOT p", 0);
        at("p NOT", 5);
        at("p AND NOT q", 6);
        at("p OR NOT q", 5);
        at("NEAR p", 5);
        at("NEAR)", 4);
        at("NEAR()", 5);
        at("NEAR(,5)", 5);
        at("NEAR(p,5", 8);
        at("NEAR(p q", 8);
        at("NEAR((p))", 5);
        at("NEAR(p OR q)", 7);
        at("NEAR(NEAR(p))", 5);
        at("NEAR(^p)", 5);
        at("NEAR(p) )", 8);
        at("p,q", 1);
    }
}
