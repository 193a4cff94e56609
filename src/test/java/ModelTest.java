import java.util.Random;

/** All promises: long runs of many calls, each answer compared with that of the model. */
public final class ModelTest {
    private static final Due DUE = new Due("ModelTest");
    private static final int RUNS = 1200;
    private static final int CALLS = 512;
    private static final String[] WORDS = {"x", "y", "xy", "xyz", "X", "Y1", "a", "b", "and", "5", "12", "yx"};
    private static final String[] GAPS = {" ", " ", " ", "-", ", ", "  ", "?"};
    private static final String[] PIECES = {"x", "y", "xy", "a", "b", "5", "10", "100", "\"x y\"", "\"\"", "\"y",
        "(", ")", "(", ")", "a:", "b:", "-a:", "-b:", "- a:", "c:", "A:", ":", "-", "^", "+", "*", ",", "NEAR(",
        "NEAR", " OR ", " AND ", " NOT ", "OR", " ", " ", "?", "a :", "x*", "\"X-y\"*", "5:"};

    private final PhraseShelf shelf = new PhraseShelf();
    private final Model model = new Model();
    private final Random random;
    private final int run;
    private int calls;

    private ModelTest(int run) {
        this.run = run;
        random = new Random(run);
    }

    public static void main(String[] args) {
        for (int run = 1; run <= RUNS; run++) {
            new ModelTest(run).play();
        }
        DUE.end();
    }

    private interface Call {
        double answer();
    }

    private static String told(Call call) {
        try {
            return String.valueOf(call.answer());
        } catch (RuntimeException e) {
            return e.getClass().getName();
        }
    }

    /** Behind the last call that the document promises anything of nothing is compared. */
    private void compare(String name, Call program, Call due) {
        if (calls >= CALLS) {
            return;
        }
        calls++;
        DUE.sameText("run " + run + " call " + calls + " " + name, told(program), told(due));
    }

    private void play() {
        while (calls < CALLS) {
            step(random.nextInt(run % 2 == 0 ? 60 : 30));
        }
    }

    private void step(int kind) {
        int r = random.nextInt(20) == 0 ? random.nextInt(60) - 20 : 1 + random.nextInt(1 + run % 24);
        int what = random.nextInt(12) - 1;
        switch (kind) {
            case 0, 1, 2 -> setText(random.nextInt(15) == 0 ? random.nextInt(5) - 1 : random.nextInt(2));
            case 3, 4, 5, 6 -> compare("insert()", shelf::insert, model::insert);
            case 7, 8, 9, 10 -> compare("replace " + r, () -> shelf.replace(r), () -> model.replace(r));
            case 11, 12 -> compare("delete " + r, () -> shelf.delete(r), () -> model.delete(r));
            case 13 -> compare("begin()", () -> none(shelf::begin), () -> none(model::begin));
            case 14 -> compare("commit()", shelf::commit, model::commit);
            case 15 -> compare("rollback()", shelf::rollback, model::rollback);
            case 16, 17, 18 -> compare("flush()", shelf::flush, model::flush);
            case 19 -> compare("optimize()", shelf::optimize, model::optimize);
            case 20 -> ways();
            case 21 -> compare("drop()", shelf::drop, model::drop);
            case 22 -> weight();
            case 23, 24, 25 -> seeSegments();
            case 26 -> compare("look " + r + " " + (what % 4), () -> shelf.look(r, what % 4), () -> model.look(r, what % 4));
            case 27, 28 -> compare("count " + what, () -> shelf.count(what), () -> model.count(what));
            case 29 -> letters(random.nextLong() >>> random.nextInt(64) & (random.nextBoolean() ? -1L : 0x7F7F7F7F7F7FL));
            default -> question();
        }
    }

    private static double none(Runnable call) {
        call.run();
        return 0;
    }

    private void letters(long w) {
        compare("letters " + w, () -> shelf.letters(w), () -> model.letters(w));
    }

    private void type(String text) {
        for (int i = 0; i < text.length(); i += 8) {
            letters(Due.octets(text.substring(i, Math.min(i + 8, text.length()))));
        }
    }

    private void setText(int column) {
        StringBuilder text = new StringBuilder();
        int words = random.nextInt(random.nextInt(8) == 0 ? 26 : 8);
        for (int i = 0; i < words; i++) {
            text.append(WORDS[random.nextInt(WORDS.length)]).append(GAPS[random.nextInt(GAPS.length)]);
        }
        type(text.toString());
        compare("set " + column + " <" + text + ">", () -> shelf.set(column), () -> model.set(column));
    }

    private void ways() {
        int most = random.nextInt(6) == 0 ? random.nextInt(12) : 1 + random.nextInt(3);
        int limit = random.nextInt(6) == 0 ? random.nextInt(210) - 5 : random.nextInt(30);
        compare("ways " + most + " " + limit, () -> none(() -> shelf.ways(most, limit)),
            () -> none(() -> model.ways(most, limit)));
    }

    private void weight() {
        int column = random.nextInt(9) == 0 ? random.nextInt(5) - 2 : random.nextInt(2);
        int weight = random.nextInt(12) - 1;
        compare("weight " + column + " " + weight, () -> shelf.weight(column, weight),
            () -> model.weight(column, weight));
    }

    private void seeSegments() {
        for (int k = -1; k <= model.count(1); k++) {
            int which = k;
            int what = random.nextInt(9) == 0 ? random.nextInt(9) - 3 : random.nextInt(3);
            compare("segment " + k + " " + what, () -> shelf.segment(which, what), () -> model.segment(which, what));
        }
        compare("segments", () -> shelf.count(1), () -> model.count(1));
        compare("segments made", () -> shelf.count(4), () -> model.count(4));
    }

    private void question() {
        String text = random.nextInt(3) == 0 ? soup() : alternatives(3);
        if (random.nextInt(4) == 0 && !text.isEmpty()) {
            int cut = random.nextInt(text.length());
            text = text.substring(0, cut) + PIECES[random.nextInt(PIECES.length)]
                + text.substring(Math.min(text.length(), cut + random.nextInt(3)));
        }
        String asked = text.length() > 96 ? text.substring(0, 96) : text;
        if (random.nextInt(10) != 0) {
            compare("drop()", shelf::drop, model::drop);
        }
        type(asked);
        compare("ask <" + asked + ">", shelf::ask, model::ask);
        compare("wrong() of <" + asked + ">", shelf::wrong, model::wrong);
        int answers = model.count(5);
        boolean ranked = random.nextBoolean();
        for (int k = -1; k <= answers; k++) {
            int which = k;
            compare("answer " + k + " " + ranked + " of <" + asked + ">",
                () -> shelf.answer(which, ranked), () -> model.answer(which, ranked));
            compare("score " + k + " " + !ranked + " of <" + asked + ">",
                () -> shelf.score(which, !ranked), () -> model.score(which, !ranked));
        }
    }

    private String soup() {
        StringBuilder text = new StringBuilder();
        int pieces = random.nextInt(12);
        for (int i = 0; i < pieces; i++) {
            text.append(PIECES[random.nextInt(PIECES.length)]);
            text.append(random.nextInt(3) == 0 ? " " : "");
        }
        if (random.nextInt(6) == 0) {
            String[] deep = {"(", "a:", "-b:", "b: "};
            for (int i = 0; i < 6; i++) {
                text.insert(0, deep[random.nextInt(deep.length)]);
            }
        }
        if (random.nextInt(6) == 0) {
            text.insert(0, "x y x y NEAR(x y)b:x x y ");
        }
        return text.toString();
    }

    private String alternatives(int depth) {
        String[] words = {" OR ", " AND ", " NOT ", " ", " "};
        StringBuilder text = new StringBuilder(atom(depth));
        int more = random.nextInt(depth + 1);
        for (int i = 0; i < more; i++) {
            text.append(words[random.nextInt(words.length)]).append(atom(depth));
        }
        return text.toString();
    }

    private String atom(int depth) {
        int kind = random.nextInt(depth > 0 ? 8 : 5);
        switch (kind) {
            case 0:
                return "^" + phrase();
            case 1:
                return near();
            case 5:
                return "(" + alternatives(depth - 1) + ")";
            case 6:
                return (random.nextBoolean() ? "a:" : "-a:") + atom(depth - 1);
            case 7:
                return (random.nextBoolean() ? "b:" : "- b: ") + atom(depth - 1);
            default:
                return phrase();
        }
    }

    private String near() {
        StringBuilder text = new StringBuilder(random.nextBoolean() ? "NEAR(" : "NEAR (");
        int size = 1 + random.nextInt(3);
        for (int i = 0; i < size; i++) {
            text.append(i == 0 ? "" : " ").append(phrase());
        }
        int reach = random.nextInt(20);
        return text.append(reach < 12 ? ", " + reach % 7 : "").append(')').toString();
    }

    private String phrase() {
        StringBuilder text = new StringBuilder();
        int size = random.nextInt(4) == 0 ? 2 : 1;
        for (int i = 0; i < size; i++) {
            String word = WORDS[random.nextInt(WORDS.length)];
            String other = WORDS[random.nextInt(WORDS.length)];
            text.append(i == 0 ? "" : " + ");
            text.append(random.nextInt(3) == 0 ? "\"" + word + " " + other + "\"" : word);
        }
        return text.append(random.nextInt(4) == 0 ? "*" : "").toString();
    }
}
