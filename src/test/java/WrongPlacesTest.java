/** Promise 16, and what the terms say of the wrong place. */
public final class WrongPlacesTest {
    private static final Due DUE = new Due("WrongPlacesTest");

    public static void main(String[] args) {
        latest();
        ends();
        joiningWords();
        signs();
        strings();
        filters();
        near();
        depth();
        phrases();
        firstOfSeveral();
        DUE.end();
    }

    private static void at(String question, int want) {
        DUE.wrongAt(new PhraseShelf(), question, want);
    }

    private static void latest() {
        PhraseShelf x = new PhraseShelf();
        DUE.same("none yet", x.wrong(), -1);
        DUE.wrongAt(x, "x (", 3);
        DUE.same("it stays", x.wrong(), 3);
        Due.type(x, "y");
        DUE.same("until the next", x.wrong(), 3);
        x.ask();
        DUE.same("that is good", x.wrong(), -1);
        DUE.wrongAt(x, ")", 0);
    }

    private static void ends() {
        at("", 0);
        at("   ", 3);
        at("x OR", 4);
        at("x OR  ", 6);
        at("x AND", 5);
        at("x NOT", 5);
        at("(", 1);
        at("(x", 2);
        at("(x ", 3);
        at("x +", 3);
        at("^", 1);
        at("a:", 2);
        at("a: ", 3);
        at("-", 1);
        at("NEAR", 4);
        at("NEAR(", 5);
        at("NEAR(x", 6);
        at("NEAR(x,", 7);
        at("NEAR(x,5", 8);
        at("a:(x", 4);
    }

    private static void joiningWords() {
        at("OR x", 0);
        at("AND", 0);
        at("NOT x", 0);
        at("x OR OR y", 5);
        at("x AND NOT y", 6);
        at("x NOT AND y", 6);
        at("x AND OR y", 6);
        at("(OR x)", 1);
        at("(x OR)", 5);
        at("x + AND", 4);
        at("^OR", 1);
        at("a:AND", 2);
        at("a:AND:x", 2);
        at("AND:x", 0);
        at("x AND:y", 5);
        at("NEAR:x", 4);
        at("-NEAR:x", 1);
        at("-OR:x", 1);
        at("NEAR(AND)", 5);
        at("NEAR(x NEAR)", 7);
        at("x NEAR NEAR(y)", 7);
    }

    private static void signs() {
        at("x)", 1);
        at("x )", 2);
        at("()", 1);
        at("(x))", 3);
        at("(x y", 4);
        at("x ?", 2);
        at("?", 0);
        at("x;y", 1);
        at("x,y", 1);
        at(":x", 0);
        at("*", 0);
        at("x**", 2);
        at("x*+y", 2);
        at("x* *", 3);
        at("(x)*", 3);
        at("(x)+y", 3);
        at("x++y", 2);
        at("x+*", 2);
        at("x+(y)", 2);
        at("x+^y", 2);
        at("+x", 0);
        at("^^x", 1);
        at("^(x)", 1);
        at("^a:x", 1);
        at("^NEAR(x)", 1);
        at("^-a:x", 1);
        at("x^", 2);
        at("x ~ y", 2);
        at("x_y", 1);
    }

    private static void strings() {
        at("\"x", 0);
        at("\"", 0);
        at("x \"y z", 2);
        at("\"x\" \"", 4);
        at("x + \"y", 4);
        at("\"\"\"", 2);
        at("NEAR(x \"y)", 7);
        at("NEAR(x,\"5)", 7);
        at("-\"a", 1);
        at("a:\"x", 2);
        at("^\"x", 1);
    }

    private static void filters() {
        at("c:x", 0);
        at("A:x", 0);
        at("B:x", 0);
        at("ab:x", 0);
        at("aa:x", 0);
        at("`", 0);
        at("1:x", 0);
        at("x c:y", 2);
        at("a:c:x", 2);
        at("(c:x)", 1);
        at("a :x", 2);
        at("a : x", 2);
        at("x:", 0);
        at("a: :x", 3);
        at("a::x", 2);
        at("\"a\":x", 3);
        at("(a):x", 3);
        at("- a", 2);
        at("-a", 1);
        at("-a x", 1);
        at("-a :x", 1);
        at("-c:x", 1);
        at("- c:x", 2);
        at("--a:x", 1);
        at("-(x)", 1);
        at("-\"a\":x", 1);
        at("-^x", 1);
        at("-?", 1);
        at("-AND", 1);
        at("x - ", 4);
        at("a:-x", 3);
        at("a*:x", 2);
        at("x + a:y", 4);
        at("x + -a:y", 4);
        at("a:x:y", 2);
    }

    private static void near() {
        at("NEAR x", 5);
        at("NEAR  ", 6);
        at("NEAR)", 4);
        at("NEAR()", 5);
        at("NEAR((x))", 5);
        at("NEAR(^x)", 5);
        at("NEAR(a:x)", 5);
        at("NEAR(x a:y)", 7);
        at("NEAR(x -a:y)", 7);
        at("NEAR(x OR y)", 7);
        at("NEAR(x AND y)", 7);
        at("NEAR(x (y))", 7);
        at("NEAR(,5)", 5);
        at("NEAR(x,)", 7);
        at("NEAR(x,100)", 7);
        at("NEAR(x, 100)", 8);
        at("NEAR(x,y)", 7);
        at("NEAR(x,1y)", 7);
        at("NEAR(x,y1)", 7);
        at("NEAR(x,-1)", 7);
        at("NEAR(x,\"5\")", 7);
        at("NEAR(x,5 6)", 9);
        at("NEAR(x,5,6)", 8);
        at("NEAR(x,5*)", 8);
        at("NEAR(x,5:)", 8);
        at("NEAR(x,5 :)", 9);
        at("NEAR(x,OR)", 7);
        at("NEAR(x,(5))", 7);
        at("NEAR(x+)", 7);
        at("NEAR(x)*", 7);
        at("NEAR(x)+y", 7);
        at("NEAR(x?)", 6);
        at("NEAR(x,5?)", 8);
    }

    private static void depth() {
        at("((((((((((x", 8);
        at("(((((((((x)))))))))", 8);
        at("a:a:a:a:a:a:a:a:a:x", 16);
        at("a:a:a:a:a:a:a:a:-b:x", 16);
        at("a:a:a:a:a:a:a:a:(x)", 16);
        at("((((a:a:a:a: (x)))))", 13);
        at("((((((((a:x))))))))", 8);
        at("((((((((- a:x))))))))", 8);
        at("((((((((c:x))))))))", 8);
        at("x ((((((((y)))))))) OR (((((((a:(y)))))))))", 32);
        at("-a:-a:-a:-a:-a:-a:-a:-a: - a:x", 25);
        at("((((((((NEAR((x))))))))))", 13);
    }

    private static void phrases() {
        at("x x x x x x x x x x x x x", 24);
        at("x x x x x x x x x x x x \"x", 24);
        at("x x x x x x x x x x x x ^x", 25);
        at("x x x x x x x x x x x x (x)", 25);
        at("x x x x x x x x x x x x a:x", 26);
        at("x x x x x x x x x x x x OR x+", 27);
        at("x x x x x x x x x x x x (", 25);
        at("x x x x x x x x x x x x OR", 26);
        at("x x x x x x x x x x x NEAR(x y*)", 29);
        at("x x x x x x x x x x x x NEAR(x)", 29);
        at("NEAR(x x x x x x x x x x x x x)", 29);
        at("x x x x x x x x x x x x c:x", 24);
    }

    private static void firstOfSeveral() {
        at("x ) \"y", 2);
        at("c:( ?", 0);
        at("x OR ) (", 5);
        at("(((((((((?", 8);
        at("? (((((((((", 0);
    }
}
