/** Promises 8 to 10: begin, commit and rollback. */
public final class TransactionsTest {
    private static final Due DUE = new Due("TransactionsTest");

    public static void main(String[] args) {
        refused();
        commit();
        rollbackOfRows();
        rollbackOfSegments();
        rollbackOfPending();
        whatStays();
        oftenTakenBack();
        DUE.end();
    }

    private static void refused() {
        PhraseShelf x = new PhraseShelf();
        DUE.refused("commit() without", IllegalStateException.class, x::commit);
        DUE.refused("rollback() without", IllegalStateException.class, x::rollback);
        x.begin();
        DUE.same("open", x.count(7), 1);
        DUE.refused("begin() twice", IllegalStateException.class, x::begin);
        DUE.same("still open", x.count(7), 1);
        DUE.same("commit()", x.commit(), 0);
        DUE.same("over", x.count(7), 0);
        DUE.refused("commit() again", IllegalStateException.class, x::commit);
        DUE.refused("rollback() behind commit()", IllegalStateException.class, x::rollback);
        x.begin();
        DUE.same("rollback()", x.rollback(), 0);
        DUE.same("over", x.count(7), 0);
        DUE.refused("rollback() again", IllegalStateException.class, x::rollback);
        Due.insert(x, "a", "");
        DUE.refused("commit() behind rollback()", IllegalStateException.class, x::commit);
        DUE.same("a refused commit() flushes nothing", x.count(2), 1);
        x.begin();
        Due.insert(x, "b", "");
        DUE.refused("begin() keeps what it saved", IllegalStateException.class, x::begin);
        DUE.same("rollback() to the first begin()", x.rollback(), 1);
    }

    private static void commit() {
        PhraseShelf x = new PhraseShelf();
        Due.insert(x, "a", "");
        x.begin();
        DUE.same("begin() flushes nothing", x.count(2), 1);
        Due.insert(x, "b", "");
        x.delete(1);
        DUE.same("commit() flushes", x.commit(), 1);
        DUE.sameText("what is live", Due.segments(x), "0:1:1");
        DUE.same("nothing pending", x.count(2), 0);
        DUE.finds(x, "a OR b", "2");
        x.ways(1, 200);
        x.begin();
        Due.insert(x, "c", "");
        DUE.same("commit() merges", x.commit(), 1);
        DUE.sameText("one of level 1", Due.segments(x), "1:2:2");
    }

    private static void rollbackOfRows() {
        PhraseShelf x = new PhraseShelf();
        Due.insert(x, "a", "one");
        Due.insert(x, "b", "two words");
        x.begin();
        Due.texts(x, "c d", "");
        x.replace(1);
        x.delete(2);
        x.insert();
        x.insert();
        DUE.finds(x, "c", "1 2 3");
        DUE.same("rollback()", x.rollback(), 2);
        DUE.finds(x, "c", "");
        DUE.finds(x, "a", "1");
        DUE.finds(x, "b", "2");
        DUE.same("tokens are back", x.look(2, 1), 2);
        DUE.same("the free row is back", x.insert(), 3);
        x.begin();
        x.delete(3);
        x.delete(1);
        x.delete(2);
        DUE.same("no rows", x.count(0), 0);
        DUE.same("all three are back", x.rollback(), 3);
    }

    private static void rollbackOfSegments() {
        PhraseShelf x = new PhraseShelf();
        x.ways(1, 0);
        Due.insert(x, "a", "");
        Due.insert(x, "b c", "");
        Due.insert(x, "d", "");
        String before = Due.segments(x);
        DUE.sameText("before", before, "1:2:3 0:1:1");
        x.begin();
        Due.insert(x, "e", "");
        x.delete(1);
        x.delete(2);
        x.optimize();
        DUE.sameText("within", Due.segments(x), "2:2:2");
        x.delete(3);
        x.delete(4);
        x.optimize();
        DUE.same("none left", x.count(1), 0);
        DUE.same("rollback()", x.rollback(), 3);
        DUE.sameText("as they were", Due.segments(x), before);
        DUE.same("versions are live again", x.optimize(), 2);
        DUE.sameText("all of them", Due.segments(x), "1:3:4");
    }

    private static void rollbackOfPending() {
        PhraseShelf x = new PhraseShelf();
        Due.insert(x, "a b", "c");
        x.begin();
        Due.insert(x, "d", "");
        DUE.same("within", x.count(2), 4);
        x.flush();
        DUE.same("flushed", x.count(2), 0);
        x.rollback();
        DUE.same("pending as it was", x.count(2), 3);
        DUE.same("no segments", x.count(1), 0);
        DUE.same("flush()", x.flush(), 1);
        DUE.sameText("with the version of row 1", Due.segments(x), "0:1:3");
        x.begin();
        Due.insert(x, "e f g h", "");
        x.rollback();
        DUE.same("nothing pending as it was", x.count(2), 0);
        DUE.same("flush() of nothing", x.flush(), 1);
        Due.insert(x, "i", "");
        x.begin();
        x.flush();
        Due.insert(x, "j", "k");
        x.rollback();
        DUE.same("flush() of what was pending before the flush", x.flush(), 2);
        DUE.sameText("row 2, not row 3", Due.segments(x), "0:1:3 0:1:1");
    }

    private static void whatStays() {
        PhraseShelf x = new PhraseShelf();
        Due.insert(x, "a", "");
        Due.insert(x, "a", "");
        x.begin();
        Due.texts(x, "b b", "c");
        x.replace(1);
        x.flush();
        x.ways(1, 0);
        x.weight(0, 7);
        Due.ask(x, "b NOT x");
        Due.type(x, "draft");
        x.rollback();
        DUE.same("versions made", x.count(3), 3);
        DUE.same("segments made", x.count(4), 1);
        DUE.same("answers", x.answer(0, false), 1);
        DUE.same("phrases", x.count(6), 2);
        DUE.same("draft", x.drop(), 5);
        DUE.same("weight", x.weight(0, 1), 7);
        DUE.same("texts that were set", x.insert(), 3);
        DUE.same("their tokens", x.look(3, 0), 2);
        DUE.same("limit", x.count(2), 0);
        x.begin();
        DUE.wrongAt(x, "(", 1);
        x.rollback();
        DUE.same("wrong place", x.wrong(), 1);
    }

    private static void oftenTakenBack() {
        PhraseShelf x = new PhraseShelf();
        x.ways(1, 0);
        Due.insert(x, "a", "");
        for (int i = 0; i < 100; i++) {
            x.begin();
            x.insert();
            x.delete(1);
            x.rollback();
        }
        DUE.sameText("as at first", Due.segments(x), "0:1:1");
        DUE.same("versions", x.count(3), 101);
        DUE.same("segments: two each time", x.count(4), 201);
        DUE.same("insert", x.insert(), 2);
    }
}
