import java.util.NoSuchElementException;

/** Promises 5 to 7 and 19: insert, replace, delete and look. */
public final class RowsTest {
    private static final Due DUE = new Due("RowsTest");

    public static void main(String[] args) {
        insertTakesTheLeast();
        textsStay();
        allRows();
        replace();
        delete();
        look();
        DUE.end();
    }

    private static void insertTakesTheLeast() {
        PhraseShelf x = new PhraseShelf();
        for (int r = 1; r <= 5; r++) {
            DUE.same("insert " + r, x.insert(), r);
        }
        x.delete(4);
        x.delete(2);
        DUE.same("the least that is free", x.insert(), 2);
        DUE.same("then the next", x.insert(), 4);
        DUE.same("then behind", x.insert(), 6);
        DUE.same("rows", x.count(0), 6);
        DUE.same("versions", x.count(3), 8);
    }

    private static void textsStay() {
        PhraseShelf x = new PhraseShelf();
        Due.insert(x, "red cat", "dog");
        DUE.same("insert again", x.insert(), 2);
        DUE.same("with the same texts", x.look(2, 0), 2);
        DUE.finds(x, "cat dog", "1 2");
        Due.type(x, "owl");
        x.set(1);
        DUE.finds(x, "owl", "");
        x.insert();
        DUE.finds(x, "cat owl", "3");
        DUE.finds(x, "cat dog", "1 2");
    }

    private static void allRows() {
        PhraseShelf x = new PhraseShelf();
        Due.texts(x, "a", "");
        for (int r = 1; r <= 24; r++) {
            DUE.same("insert of 24", x.insert(), r);
        }
        int entries = x.count(2);
        DUE.refused("the 25th", IndexOutOfBoundsException.class, x::insert);
        DUE.same("rows", x.count(0), 24);
        DUE.same("versions", x.count(3), 24);
        DUE.same("pending", x.count(2), entries);
        DUE.same("find all", Due.ask(x, "a"), 24);
        DUE.same("the last answer", x.answer(23, true), 24);
        x.delete(24);
        DUE.same("24 is free", x.insert(), 24);
    }

    private static void replace() {
        PhraseShelf x = new PhraseShelf();
        Due.insert(x, "old", "words");
        Due.insert(x, "old", "words");
        Due.texts(x, "new new a", "A a new");
        DUE.same("replace: entries", x.replace(1), 4);
        DUE.same("tokens", x.look(1, 0), 3);
        DUE.same("rows", x.count(0), 2);
        DUE.same("versions", x.count(3), 3);
        DUE.same("pending, live or not", x.count(2), 8);
        DUE.finds(x, "old", "2");
        DUE.finds(x, "new", "1");
        for (int r : new int[] {0, -1, 3, 24, 25, 100, Integer.MIN_VALUE, Integer.MAX_VALUE}) {
            DUE.refused("replace(" + r + ")", NoSuchElementException.class, () -> x.replace(r));
        }
        DUE.same("versions behind refusals", x.count(3), 3);
        Due.texts(x, "", " ");
        DUE.same("replace: no entries", x.replace(2), 0);
        DUE.same("a version all the same", x.count(3), 4);
        DUE.finds(x, "old", "");
    }

    private static void delete() {
        PhraseShelf x = new PhraseShelf();
        Due.insert(x, "a a b", "c c");
        Due.insert(x, "a", "");
        DUE.same("delete: tokens", x.delete(1), 5);
        DUE.same("rows", x.count(0), 1);
        DUE.same("pending stays", x.count(2), 4);
        DUE.finds(x, "a", "2");
        for (int r : new int[] {1, 0, -1, 25, Integer.MIN_VALUE, Integer.MAX_VALUE}) {
            DUE.refused("delete(" + r + ")", NoSuchElementException.class, () -> x.delete(r));
        }
        DUE.refused("replace of a deleted row", NoSuchElementException.class, () -> x.replace(1));
        DUE.refused("look at a deleted row", NoSuchElementException.class, () -> x.look(1, 0));
        DUE.same("delete: the last", x.delete(2), 1);
        DUE.same("no rows", x.count(0), 0);
        DUE.same("versions", x.count(3), 2);
        DUE.finds(x, "a", "");
    }

    private static void look() {
        PhraseShelf x = new PhraseShelf();
        Due.insert(x, "The cat, the CAT", "cat dog-dog 7 07");
        DUE.same("tokens of column 0", x.look(1, 0), 4);
        DUE.same("tokens of column 1", x.look(1, 1), 5);
        DUE.same("entries", x.look(1, 2), 6);
        for (int what : new int[] {-1, 3, Integer.MIN_VALUE, Integer.MAX_VALUE}) {
            DUE.refused("look(1, " + what + ")", IllegalArgumentException.class, () -> x.look(1, what));
            DUE.refused("look(2, " + what + ")", NoSuchElementException.class, () -> x.look(2, what));
        }
        for (int r : new int[] {0, -1, 2, 24, 25, Integer.MIN_VALUE, Integer.MAX_VALUE}) {
            DUE.refused("look(" + r + ", 0)", NoSuchElementException.class, () -> x.look(r, 0));
        }
        Due.insert(x, "a b c d e f g h i j k l m n o p q r s t u v w x", "ab abc a abcd aa b");
        DUE.same("entries: beginnings are no equals", x.look(2, 2), 30);
    }
}
