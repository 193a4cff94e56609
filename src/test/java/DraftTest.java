/** Promises 1 to 4: a new object, letters, drop and set. */
public final class DraftTest {
    private static final Due DUE = new Due("DraftTest");

    public static void main(String[] args) {
        newObject();
        lettersOfAnOctet();
        lettersRefused();
        draftIsFull();
        drop();
        set();
        setRefused();
        DUE.end();
    }

    private static void newObject() {
        PhraseShelf x = new PhraseShelf();
        for (int what = 0; what <= 8; what++) {
            DUE.same("new: count(" + what + ")", x.count(what), 0);
        }
        DUE.same("new: wrong()", x.wrong(), -1);
        DUE.same("new: drop()", x.drop(), 0);
        DUE.same("new: flush()", x.flush(), 0);
        DUE.same("new: optimize()", x.optimize(), 0);
        DUE.same("new: weight(0, 2)", x.weight(0, 2), 1);
        DUE.same("new: weight(1, 2)", x.weight(1, 2), 1);
        DUE.refused("new: answer(0, false)", IndexOutOfBoundsException.class, () -> x.answer(0, false));
        DUE.refused("new: score(0, false)", IndexOutOfBoundsException.class, () -> x.score(0, false));
        DUE.refused("new: look(1, 0)", java.util.NoSuchElementException.class, () -> x.look(1, 0));
        DUE.refused("new: segment(0, 0)", IndexOutOfBoundsException.class, () -> x.segment(0, 0));
        DUE.refused("new: commit()", IllegalStateException.class, x::commit);
        DUE.same("new: insert() without texts", x.insert(), 1);
        DUE.same("new: tokens of column 0", x.look(1, 0), 0);
        DUE.same("new: tokens of column 1", x.look(1, 1), 0);
        DUE.same("new: entries", x.look(1, 2), 0);
        limitOfANewObject();
        mostOfANewObject();
    }

    private static void limitOfANewObject() {
        PhraseShelf x = new PhraseShelf();
        Due.insert(x, "a b c d e f g h i j", "a b c d e f g h i j");
        DUE.same("new: 20 entries are no more than the limit", x.count(1), 0);
        DUE.same("new: 20 entries pending", x.count(2), 20);
        Due.insert(x, "a", "");
        DUE.same("new: 21 entries are more", x.count(1), 1);
        DUE.same("new: nothing pending", x.count(2), 0);
    }

    private static void mostOfANewObject() {
        PhraseShelf x = new PhraseShelf();
        for (int i = 0; i < 3; i++) {
            Due.insert(x, "a", "");
            x.flush();
        }
        DUE.sameText("new: three segments stay", Due.segments(x), "0:1:1 0:1:1 0:1:1");
        Due.insert(x, "a", "");
        x.flush();
        DUE.sameText("new: four are made one", Due.segments(x), "1:4:4");
    }

    private static void lettersOfAnOctet() {
        PhraseShelf x = new PhraseShelf();
        DUE.same("letters: the lowest alone", x.letters(' '), 1);
        DUE.same("letters: 126", x.letters('~'), 2);
        DUE.same("letters: eight", x.letters(Due.octets("abcdefgh")), 10);
        DUE.same("letters: none behind the first 0", x.letters(0xFF01_00L << 8 | 'q'), 11);
        DUE.same("letters: count(8)", x.count(8), 11);
        PhraseShelf y = new PhraseShelf();
        y.letters(Due.octets("ab cd"));
        DUE.same("letters: the lowest is the first", y.set(0), 2);
        y.insert();
        DUE.finds(y, "^ab", "1");
        DUE.finds(y, "cd", "1");
    }

    private static void lettersRefused() {
        PhraseShelf x = new PhraseShelf();
        x.letters('x');
        long[] bad = {0, 31, 127, 128, 255, 'a' | 31L << 8, 'a' | 127L << 8, 0x6100L,
            Due.octets("abcdefg") | 0x80L << 56, Due.octets("abcdefg") | 10L << 56, -1L, Long.MIN_VALUE};
        for (long w : bad) {
            DUE.refused("letters(" + w + ")", IllegalArgumentException.class, () -> x.letters(w));
            DUE.same("letters(" + w + ") changes nothing", x.count(8), 1);
        }
    }

    private static void draftIsFull() {
        PhraseShelf x = new PhraseShelf();
        for (int i = 1; i <= 11; i++) {
            DUE.same("letters, " + i, x.letters(Due.octets("abcdefgh")), 8 * i);
        }
        x.letters('a');
        DUE.refused("97 letters", IndexOutOfBoundsException.class, () -> x.letters(Due.octets("abcdefgh")));
        DUE.refused("97 with a bad one", IllegalArgumentException.class,
            () -> x.letters(Due.octets("abcdefg") | 7L << 56));
        DUE.same("96 letters", x.letters(Due.octets("abcdefg")), 96);
        DUE.refused("one more", IndexOutOfBoundsException.class, () -> x.letters('a'));
        DUE.refused("a bad one comes first", IllegalArgumentException.class, () -> x.letters(0));
        DUE.same("count(8)", x.count(8), 96);
        DUE.refused("set with 96", IndexOutOfBoundsException.class, () -> x.set(0));
        DUE.same("it stays", x.drop(), 96);
    }

    private static void drop() {
        PhraseShelf x = new PhraseShelf();
        Due.type(x, "a few letters");
        DUE.same("drop()", x.drop(), 13);
        DUE.same("drop() again", x.drop(), 0);
        Due.type(x, "two words");
        DUE.same("set behind drop", x.set(0), 2);
    }

    private static void set() {
        tokens("", 0);
        tokens(" ?!-_", 0);
        tokens("one", 1);
        tokens("one two", 2);
        tokens("  one--two  ", 2);
        tokens("a_b'c", 3);
        tokens("x1Y2z3 4", 2);
        tokens("@az[AZ`09{/:", 3);
        tokens("a-z-A-Z-0-9", 6);
        tokens("a a a a a a a a a a a a a a a a a a a a a a a a", 24);
        tokens("aaaaaaaaaaaaaaaaaaaaaaaaaaaaaaaaaaaaaaaaaaaaaaaa", 1);
        PhraseShelf x = new PhraseShelf();
        Due.texts(x, "one two three", "four five");
        DUE.same("set empties the draft", x.count(8), 0);
        x.insert();
        DUE.same("column 0", x.look(1, 0), 3);
        DUE.same("column 1", x.look(1, 1), 2);
        DUE.same("set to an empty text", x.set(0), 0);
        x.replace(1);
        DUE.same("column 0 is empty", x.look(1, 0), 0);
        DUE.same("column 1 is as it was", x.look(1, 1), 2);
    }

    private static void tokens(String text, int want) {
        PhraseShelf x = new PhraseShelf();
        Due.type(x, text);
        DUE.same("set of <" + text + ">", x.set(1), want);
        DUE.same("draft behind set of <" + text + ">", x.count(8), 0);
    }

    private static void setRefused() {
        PhraseShelf x = new PhraseShelf();
        Due.type(x, "a".repeat(49));
        for (int column : new int[] {-1, 2, Integer.MIN_VALUE, Integer.MAX_VALUE}) {
            DUE.refused("set(" + column + ")", IllegalArgumentException.class, () -> x.set(column));
        }
        DUE.refused("set(0) with 49", IndexOutOfBoundsException.class, () -> x.set(0));
        DUE.refused("set(1) with 49", IndexOutOfBoundsException.class, () -> x.set(1));
        DUE.same("the draft stays", x.drop(), 49);
        Due.type(x, "a".repeat(48));
        DUE.refused("set(2) with 48", IllegalArgumentException.class, () -> x.set(2));
        DUE.same("set(0) with 48", x.set(0), 1);
    }
}
