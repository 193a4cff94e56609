import java.util.ArrayList;
import java.util.List;
import java.util.NoSuchElementException;
import java.util.function.Consumer;

/**
 * What a refused call leaves as it was: each is made in many states on one of two like objects, and neither what
 * both show nor what they answer from then on may differ. Also which of several exceptions comes first.
 */
public final class RefusedCallsTest {
    private static final Due DUE = new Due("RefusedCallsTest");
    private static final Class<IllegalArgumentException> ILLEGAL = IllegalArgumentException.class;
    private static final Class<IndexOutOfBoundsException> INDEX = IndexOutOfBoundsException.class;
    private static final Class<IllegalStateException> STATE = IllegalStateException.class;
    private static final Class<NoSuchElementException> NONE = NoSuchElementException.class;
    private static final int LOW = Integer.MIN_VALUE;
    private static final int HIGH = Integer.MAX_VALUE;

    private record Refusal(String name, Class<? extends RuntimeException> due, Consumer<PhraseShelf> call) {
    }

    private record State(String name, Consumer<PhraseShelf> script) {
        PhraseShelf made() {
            PhraseShelf x = new PhraseShelf();
            script.accept(x);
            return x;
        }
    }

    private static final State NEW = new State("new", x -> { });
    private static final State ROWS = new State("rows", RefusedCallsTest::rows);
    private static final State OPEN = new State("open transaction", RefusedCallsTest::openTransaction);
    private static final State ASKED = new State("asked", RefusedCallsTest::asked);
    private static final State FULL = new State("24 rows", RefusedCallsTest::allRows);
    private static final State DRAFT_49 = new State("draft of 49", x -> draft(x, 49));
    private static final State DRAFT_96 = new State("draft of 96", x -> draft(x, 96));
    private static final State[] ALL = {NEW, ROWS, OPEN, ASKED, FULL, DRAFT_49, DRAFT_96};

    public static void main(String[] args) {
        for (State state : ALL) {
            always().forEach(refusal -> check(state, refusal));
            byState(state.made()).forEach(refusal -> check(state, refusal));
        }
        ask();
        firstOfSeveral();
        DUE.end();
    }

    private static void rows(PhraseShelf x) {
        x.ways(2, 5);
        x.weight(0, 3);
        Due.insert(x, "p q", "r");
        Due.insert(x, "q", "p p");
        Due.insert(x, "", "");
        Due.insert(x, "s t", "");
        x.delete(2);
        Due.texts(x, "t p", "t");
        Due.type(x, "r (");
    }

    private static void openTransaction(PhraseShelf x) {
        rows(x);
        x.begin();
        x.replace(1);
        x.delete(4);
        x.ways(1, 3);
        x.insert();
        Due.type(x, "p");
        x.set(1);
        x.insert();
    }

    private static void asked(PhraseShelf x) {
        rows(x);
        x.drop();
        Due.ask(x, "p OR q OR s");
        DUE.wrongAt(x, "p OR", 4);
        x.weight(1, 7);
        x.delete(1);
        Due.type(x, "p ?");
    }

    private static void allRows(PhraseShelf x) {
        x.ways(3, 9);
        Due.texts(x, "p q", "p");
        for (int r = 1; r <= 24; r++) {
            x.insert();
        }
        Due.ask(x, "p*");
        Due.texts(x, "r", "s s");
    }

    private static void draft(PhraseShelf x, int length) {
        Due.insert(x, "p q", "");
        Due.texts(x, "s", "r");
        Due.type(x, "p" + " ".repeat(length - 2) + "q");
    }

    /** Calls that no object takes. */
    private static List<Refusal> always() {
        List<Refusal> all = new ArrayList<>();
        for (long w : new long[] {0, 31, 127, 128, 255, 'p' << 8, 'p' | 31L << 8, -1L, Long.MIN_VALUE,
            Due.octets("ppppppp") | 127L << 56, Due.octets("ppppppp") | 128L << 56}) {
            all.add(new Refusal("letters(" + w + ")", ILLEGAL, x -> x.letters(w)));
        }
        for (int n : new int[] {-1, 2, LOW, HIGH}) {
            all.add(new Refusal("set(" + n + ")", ILLEGAL, x -> x.set(n)));
            all.add(new Refusal("weight(" + n + ", 1)", ILLEGAL, x -> x.weight(n, 1)));
        }
        for (int r : new int[] {0, 25, -1, LOW, HIGH}) {
            all.add(new Refusal("replace(" + r + ")", NONE, x -> x.replace(r)));
            all.add(new Refusal("delete(" + r + ")", NONE, x -> x.delete(r)));
            all.add(new Refusal("look(" + r + ", 0)", NONE, x -> x.look(r, 0)));
            all.add(new Refusal("look(" + r + ", 3)", NONE, x -> x.look(r, 3)));
        }
        for (int[] w : new int[][] {{0, 9}, {10, 9}, {LOW, 9}, {HIGH, 9}, {9, -1}, {9, 201}, {9, LOW}, {9, HIGH}}) {
            all.add(new Refusal("ways(" + w[0] + ", " + w[1] + ")", ILLEGAL, x -> x.ways(w[0], w[1])));
        }
        for (int w : new int[] {-1, 10, LOW, HIGH}) {
            all.add(new Refusal("weight(0, " + w + ")", ILLEGAL, x -> x.weight(0, w)));
            all.add(new Refusal("weight(1, " + w + ")", ILLEGAL, x -> x.weight(1, w)));
        }
        for (int k : new int[] {-1, 24, LOW, HIGH}) {
            all.add(new Refusal("answer(" + k + ", false)", INDEX, x -> x.answer(k, false)));
            all.add(new Refusal("answer(" + k + ", true)", INDEX, x -> x.answer(k, true)));
            all.add(new Refusal("score(" + k + ", false)", INDEX, x -> x.score(k, false)));
            all.add(new Refusal("score(" + k + ", true)", INDEX, x -> x.score(k, true)));
            all.add(new Refusal("segment(" + k + ", 0)", INDEX, x -> x.segment(k, 0)));
            all.add(new Refusal("segment(" + k + ", -1)", INDEX, x -> x.segment(k, -1)));
        }
        for (int what : new int[] {-1, 9, LOW, HIGH}) {
            all.add(new Refusal("count(" + what + ")", ILLEGAL, x -> x.count(what)));
        }
        return all;
    }

    /** Calls that an object in this state does not take. */
    private static List<Refusal> byState(PhraseShelf made) {
        List<Refusal> all = new ArrayList<>();
        boolean open = made.count(7) == 1;
        all.add(new Refusal("begin() or commit()", STATE, open ? PhraseShelf::begin : PhraseShelf::commit));
        all.add(new Refusal("begin() or rollback()", STATE, open ? PhraseShelf::begin : PhraseShelf::rollback));
        if (made.count(0) == 24) {
            all.add(new Refusal("insert()", INDEX, PhraseShelf::insert));
        }
        int draft = made.count(8);
        if (draft > 48) {
            all.add(new Refusal("set(0) of " + draft, INDEX, x -> x.set(0)));
            all.add(new Refusal("set(1) of " + draft, INDEX, x -> x.set(1)));
        }
        if (draft == 96) {
            all.add(new Refusal("letters: the 97th", INDEX, x -> x.letters('p')));
            all.add(new Refusal("letters: eight more", INDEX, x -> x.letters(Due.octets("pppppppp"))));
        }
        int answers = made.count(5);
        all.add(new Refusal("answer behind the last", INDEX, x -> x.answer(answers, true)));
        all.add(new Refusal("score behind the last", INDEX, x -> x.score(answers, false)));
        int segments = made.count(1);
        all.add(new Refusal("segment behind the last", INDEX, x -> x.segment(segments, 0)));
        if (segments > 0) {
            all.add(new Refusal("segment(last, 3)", ILLEGAL, x -> x.segment(segments - 1, 3)));
            all.add(new Refusal("segment(0, -1)", ILLEGAL, x -> x.segment(0, -1)));
        }
        for (int r = 1; r <= 24; r++) {
            rowByState(all, r, isThere(made, r));
        }
        return all;
    }

    private static void rowByState(List<Refusal> all, int r, boolean there) {
        if (there) {
            all.add(new Refusal("look(" + r + ", 3)", ILLEGAL, x -> x.look(r, 3)));
            all.add(new Refusal("look(" + r + ", -1)", ILLEGAL, x -> x.look(r, -1)));
        } else {
            all.add(new Refusal("replace(" + r + ")", NONE, x -> x.replace(r)));
            all.add(new Refusal("delete(" + r + ")", NONE, x -> x.delete(r)));
            all.add(new Refusal("look(" + r + ", 2)", NONE, x -> x.look(r, 2)));
        }
    }

    private static boolean isThere(PhraseShelf x, int r) {
        try {
            return x.look(r, 0) >= 0;
        } catch (NoSuchElementException e) {
            return false;
        }
    }

    /** New objects for each look, so that none is used for more calls than the document promises. */
    private static void check(State state, Refusal refusal) {
        String name = state.name() + ": " + refusal.name();
        PhraseShelf seen = refused(state, name, refusal);
        DUE.sameText(name + " changes nothing that is seen", Seen.of(seen), Seen.of(state.made()));
        for (boolean back : new boolean[] {false, true}) {
            PhraseShelf x = refused(state, name, refusal);
            DUE.sameText(name + " changes nothing that is seen later", Seen.goingOn(x, back),
                Seen.goingOn(state.made(), back));
        }
    }

    private static PhraseShelf refused(State state, String name, Refusal refusal) {
        PhraseShelf x = state.made();
        DUE.refused(name, refusal.due(), () -> refusal.call().accept(x));
        return x;
    }

    /** A question that is none empties the draft and has a wrong place; nothing else changes. */
    private static void ask() {
        for (State state : ALL) {
            for (String question : new String[] {"", "p OR", "((((((((((", "p p p p p p p p p p p p p", "c:p"}) {
                String name = state.name() + ": ask <" + question + ">";
                DUE.sameText(name + " changes nothing else that is seen",
                    Seen.of(askedWrongly(state, name, question)).replaceFirst("wrong -?\\d+", "wrong"),
                    Seen.of(dropped(state)).replaceFirst("wrong -?\\d+", "wrong"));
                for (boolean back : new boolean[] {false, true}) {
                    DUE.sameText(name + " changes nothing else that is seen later",
                        Seen.goingOn(askedWrongly(state, name, question), back),
                        Seen.goingOn(dropped(state), back));
                }
            }
        }
    }

    private static PhraseShelf askedWrongly(State state, String name, String question) {
        PhraseShelf x = dropped(state);
        Due.type(x, question);
        DUE.refused(name, ILLEGAL, x::ask);
        return x;
    }

    private static PhraseShelf dropped(State state) {
        PhraseShelf x = state.made();
        x.drop();
        return x;
    }

    /** Of several exceptions of a call the one named first in its heading. */
    private static void firstOfSeveral() {
        PhraseShelf full = DRAFT_96.made();
        DUE.refused("letters: no letter and too many", ILLEGAL, () -> full.letters(7));
        DUE.refused("letters: a bad one behind too many", ILLEGAL, () -> full.letters('p' | 127L << 8));
        DUE.refused("set: no column and too long", ILLEGAL, () -> full.set(2));
        PhraseShelf some = ROWS.made();
        DUE.refused("look: no row and nothing of it", NONE, () -> some.look(2, 3));
        DUE.refused("look: nothing of it", ILLEGAL, () -> some.look(1, 3));
        int segments = some.count(1);
        DUE.refused("segment: none and nothing of it", INDEX, () -> some.segment(segments, 3));
        DUE.refused("segment: nothing of it", ILLEGAL, () -> some.segment(segments - 1, 3));
    }
}
