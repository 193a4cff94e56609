import java.util.NoSuchElementException;

/** The edges of promises 5 to 7 and 19, and of what the terms say of rows, versions and entries. */
public final class RowsEdgesTest {
    private static final Due DUE = new Due("RowsEdgesTest");
    private static final int ROWS_MOST = 24;
    private static final String ALPHABET = "abcdefghijklmnopqrstuvwxyz";

    public static void main(String[] args) {
        everyRowNumberInEveryFilling();
        theLeastThatIsFree();
        insertOfTheTwentyFifth();
        insertWithoutTexts();
        textsStayForAll();
        replaceOfOneAndOfAll();
        replaceByTheSame();
        deleteOfOneAndOfAll();
        entriesFromNoneToAsManyAsCanBe();
        entriesAreDifferentPairs();
        everyWhatOfLook();
        versionsMade();
        DUE.end();
    }

    private static PhraseShelf filled(int rows) {
        PhraseShelf x = new PhraseShelf();
        Due.texts(x, "p q", "p");
        for (int r = 1; r <= rows; r++) {
            DUE.same("insert()", x.insert(), r);
        }
        return x;
    }

    /** 0 to 24 rows: those that are there are taken, those before, behind and beyond are refused. */
    private static void everyRowNumberInEveryFilling() {
        for (int rows = 0; rows <= ROWS_MOST; rows++) {
            PhraseShelf x = filled(rows);
            DUE.same("rows", x.count(0), rows);
            for (int r = -2; r <= ROWS_MOST + 3; r++) {
                int row = r;
                String name = "(" + r + ") of " + rows;
                if (r >= 1 && r <= rows) {
                    DUE.same("look" + name, x.look(r, 0), 2);
                    DUE.same("replace" + name, x.replace(r), 3);
                } else {
                    DUE.refused("look" + name, NoSuchElementException.class, () -> x.look(row, 0));
                    DUE.refused("replace" + name, NoSuchElementException.class, () -> x.replace(row));
                    DUE.refused("delete" + name, NoSuchElementException.class, () -> x.delete(row));
                }
            }
            DUE.same("a version for each that was taken", x.count(3), 2 * rows);
            DUE.same("rows are as many", x.count(0), rows);
        }
    }

    private static void theLeastThatIsFree() {
        for (int first = 1; first <= ROWS_MOST; first++) {
            PhraseShelf x = filled(ROWS_MOST);
            int second = first % ROWS_MOST + 1;
            x.delete(first);
            x.delete(second);
            DUE.same("the least of " + first + " and " + second, x.insert(), Math.min(first, second));
            DUE.same("then the other", x.insert(), Math.max(first, second));
            DUE.refused("then none", IndexOutOfBoundsException.class, x::insert);
        }
    }

    private static void insertOfTheTwentyFifth() {
        PhraseShelf x = filled(ROWS_MOST - 1);
        DUE.same("the 24th", x.insert(), ROWS_MOST);
        String before = Seen.of(x);
        DUE.refused("the 25th", IndexOutOfBoundsException.class, x::insert);
        DUE.refused("the 25th again", IndexOutOfBoundsException.class, x::insert);
        DUE.sameText("nothing has changed", Seen.of(x), before);
        DUE.same("replace needs no room", x.replace(ROWS_MOST), 3);
        x.begin();
        DUE.refused("nor has a transaction any", IndexOutOfBoundsException.class, x::insert);
        x.delete(7);
        DUE.same("room by delete", x.insert(), 7);
        x.delete(7);
        DUE.same("rollback()", x.rollback(), ROWS_MOST);
        DUE.refused("the room is gone again", IndexOutOfBoundsException.class, x::insert);
    }

    private static void insertWithoutTexts() {
        PhraseShelf x = new PhraseShelf();
        for (int r = 1; r <= ROWS_MOST; r++) {
            DUE.same("insert()", x.insert(), r);
            DUE.same("no entries", x.look(r, 2), 0);
            DUE.same("none pending", x.count(2), 0);
        }
        DUE.same("a version each", x.count(3), ROWS_MOST);
        DUE.same("flush() makes no segment", x.flush(), 0);
        DUE.same("none made", x.count(4), 0);
        DUE.finds(x, "\"\" OR p*", "");
        DUE.same("replace", x.replace(3), 0);
        DUE.same("delete", x.delete(3), 0);
    }

    private static void textsStayForAll() {
        PhraseShelf x = new PhraseShelf();
        Due.texts(x, "p", "q r");
        for (int r = 1; r <= ROWS_MOST; r++) {
            x.insert();
        }
        DUE.same("all have them", Due.ask(x, "a:p b:\"q r\""), ROWS_MOST);
        x.delete(5);
        DUE.same("they stay behind delete", x.insert(), 5);
        Due.type(x, "draft");
        DUE.same("the draft is none of them", x.replace(6), 3);
        DUE.same("and is not taken", x.drop(), 5);
        x.begin();
        Due.type(x, "s");
        x.set(0);
        x.rollback();
        DUE.same("rollback() does not bring texts back", x.replace(1), 3);
        DUE.finds(x, "s", "1");
    }

    private static void replaceOfOneAndOfAll() {
        PhraseShelf x = new PhraseShelf();
        Due.insert(x, "p", "");
        Due.texts(x, "", "q");
        DUE.same("replace of the only one", x.replace(1), 1);
        DUE.finds(x, "p", "");
        DUE.finds(x, "b:q", "1");
        PhraseShelf y = filled(ROWS_MOST);
        Due.texts(y, "s s s", "s");
        for (int r = 1; r <= ROWS_MOST; r++) {
            DUE.same("replace", y.replace(r), 2);
            DUE.same("of each", Due.ask(y, "s"), r);
            DUE.same("the others have theirs", Due.ask(y, "p"), ROWS_MOST - r);
        }
        DUE.same("rows", y.count(0), ROWS_MOST);
    }

    private static void replaceByTheSame() {
        PhraseShelf x = new PhraseShelf();
        Due.insert(x, "p", "q");
        DUE.same("replace", x.replace(1), 2);
        DUE.same("it is another version", x.count(3), 2);
        DUE.same("both are pending", x.count(2), 4);
        x.flush();
        DUE.sameText("one is live", Due.segments(x), "0:1:2");
    }

    private static void deleteOfOneAndOfAll() {
        PhraseShelf x = filled(ROWS_MOST);
        for (int r = ROWS_MOST; r >= 1; r--) {
            DUE.same("delete", x.delete(r), 3);
            DUE.same("rows", x.count(0), r - 1);
            DUE.same("found", Due.ask(x, "p"), r - 1);
            int row = r;
            DUE.refused("delete again", NoSuchElementException.class, () -> x.delete(row));
        }
        DUE.same("no version is made by it", x.count(3), ROWS_MOST);
        DUE.same("insert begins at 1", x.insert(), 1);
        PhraseShelf y = new PhraseShelf();
        Due.insert(y, "p ".repeat(24), "q ".repeat(24));
        DUE.same("delete: all tokens, not entries", y.delete(1), 48);
    }

    /** 0 to 24 different tokens in each column. */
    private static void entriesFromNoneToAsManyAsCanBe() {
        for (int first = 0; first <= 24; first++) {
            for (int second = 0; second <= 24; second += 6) {
                PhraseShelf x = new PhraseShelf();
                x.ways(3, 200);
                Due.insert(x, spaced(first), spaced(second));
                DUE.same("entries", x.look(1, 2), first + second);
                DUE.same("pending", x.count(2), first + second);
                DUE.same("replace", x.replace(1), first + second);
                DUE.same("pending of both", x.count(2), 2 * (first + second));
                DUE.same("flush()", x.flush(), first + second > 0 ? 1 : 0);
            }
        }
    }

    private static String spaced(int tokens) {
        StringBuilder text = new StringBuilder();
        for (int i = 0; i < tokens; i++) {
            text.append(ALPHABET.charAt(i)).append(' ');
        }
        return text.toString();
    }

    private static void entriesAreDifferentPairs() {
        entries("p p p", "", 1);
        entries("p", "p", 2);
        entries("p P", "P p", 2);
        entries("p pp", "", 2);
        entries("pp p", "", 2);
        entries("ppq ppr pp", "", 3);
        entries("p q p q", "q p q p", 4);
        entries("p-p,p;p", "?", 1);
        entries("1 01 001", "", 3);
        entries("a ".repeat(23) + "b", "", 2);
        entries("b " + "a ".repeat(23), "b", 3);
        entries("x".repeat(22) + "y " + "x".repeat(22) + "z", "", 2);
        entries("x".repeat(22) + "y " + "x".repeat(22) + "y", "", 1);
    }

    private static void entries(String first, String second, int want) {
        PhraseShelf x = new PhraseShelf();
        Due.insert(x, first, second);
        String name = "entries of <" + first + "> and <" + second + ">";
        DUE.same(name, x.look(1, 2), want);
        DUE.same(name + ", replace", x.replace(1), want);
        DUE.same(name + ", pending", x.count(2), 2 * want);
    }

    private static void everyWhatOfLook() {
        PhraseShelf x = new PhraseShelf();
        Due.insert(x, "p q p", "p");
        int[] want = {3, 1, 3};
        for (int what = -20; what <= 20; what++) {
            int which = what;
            if (what >= 0 && what < want.length) {
                DUE.same("look(1, " + what + ")", x.look(1, what), want[what]);
            } else {
                DUE.refused("look(1, " + what + ")", IllegalArgumentException.class, () -> x.look(1, which));
                DUE.refused("look(2, " + what + ")", NoSuchElementException.class, () -> x.look(2, which));
            }
        }
    }

    private static void versionsMade() {
        PhraseShelf x = new PhraseShelf();
        x.insert();
        DUE.same("insert makes one", x.count(3), 1);
        x.replace(1);
        DUE.same("replace makes one", x.count(3), 2);
        x.flush();
        x.optimize();
        x.delete(1);
        DUE.same("flush, optimize and delete make none", x.count(3), 2);
        DUE.refused("replace of none", NoSuchElementException.class, () -> x.replace(1));
        DUE.same("nor does a refused call", x.count(3), 2);
        x.begin();
        x.insert();
        x.replace(1);
        x.rollback();
        DUE.same("those that were taken back count", x.count(3), 4);
        x.begin();
        x.insert();
        x.commit();
        DUE.same("those that were not, too", x.count(3), 5);
    }
}
