/** The edges of promises 8 to 10: nothing, one and as many as there can be, and what is not taken back. */
public final class TransactionsEdgesTest {
    private static final Due DUE = new Due("TransactionsEdgesTest");

    private interface Change {
        void make(PhraseShelf x);
    }

    public static void main(String[] args) {
        everyOrderOfThree();
        ofNothing();
        takesBackEachChange();
        commitKeepsEachChange();
        takesBackAllRows();
        takesBackAllPending();
        takesBackManySegments();
        takesBackLevels();
        oneBehindTheOther();
        whatIsNotTakenBack();
        onlyCommitFlushes();
        commitOfNothingMerges();
        versionsAreLiveAgain();
        answersOfATransaction();
        DUE.end();
    }

    /** All runs of four calls of begin, commit and rollback: each is taken or refused as the state tells. */
    private static void everyOrderOfThree() {
        for (int run = 0; run < 81; run++) {
            PhraseShelf x = new PhraseShelf();
            boolean open = false;
            int rest = run;
            for (int i = 0; i < 4; i++) {
                int kind = rest % 3;
                rest /= 3;
                String name = "run " + run + " call " + i;
                if (kind == 0 == open) {
                    DUE.refused(name, IllegalStateException.class, () -> call(x, kind));
                } else {
                    DUE.same(name, call(x, kind), 0);
                    open = !open;
                }
                DUE.same(name + ": count(7)", x.count(7), open ? 1 : 0);
            }
        }
    }

    private static int call(PhraseShelf x, int kind) {
        if (kind == 0) {
            x.begin();
            return 0;
        }
        return kind == 1 ? x.commit() : x.rollback();
    }

    private static void ofNothing() {
        PhraseShelf x = some();
        String before = Seen.of(x);
        x.begin();
        DUE.sameText("begin() changes nothing else", Seen.of(x).replaceFirst("1 0, wrong", "0 0, wrong"), before);
        DUE.same("rollback()", x.rollback(), 3);
        DUE.sameText("as before", Seen.of(x), before);
    }

    /** Rows 1, 2 and 4; segments of two levels and pending versions, some live and some not. */
    private static PhraseShelf some() {
        PhraseShelf x = new PhraseShelf();
        x.ways(1, 3);
        Due.insert(x, "p q", "p q");
        Due.insert(x, "p r", "p r");
        Due.insert(x, "s", "s t u");
        x.delete(3);
        Due.texts(x, "v", "");
        x.replace(1);
        x.insert();
        x.insert();
        x.delete(3);
        Due.texts(x, "w w", "");
        DUE.sameText("some", Seen.of(x), "counts 3 2 3 6 4 0 0 0 0, wrong -1, rows 1:0:1 2:2:4 - 1:0:1"
            + " -".repeat(20) + ", segments 1:2:8 0:1:4, answers");
        return x;
    }

    private static Change[] changes() {
        return new Change[] {
            x -> x.insert(),
            x -> x.replace(1),
            x -> x.replace(4),
            x -> x.delete(1),
            x -> x.delete(2),
            x -> x.delete(4),
            x -> x.flush(),
            x -> x.optimize(),
            x -> { x.delete(1); x.delete(2); x.delete(4); },
            x -> { x.delete(1); x.delete(2); x.delete(4); x.flush(); x.optimize(); },
            x -> { x.insert(); x.insert(); x.insert(); x.insert(); x.insert(); },
            x -> { x.flush(); x.insert(); x.flush(); x.insert(); x.flush(); },
            x -> { x.replace(1); x.replace(1); x.replace(1); x.replace(1); x.flush(); x.replace(1); },
            x -> { x.delete(1); x.insert(); },
            x -> { x.optimize(); x.delete(1); x.flush(); x.optimize(); },
        };
    }

    /** Counts 3 and 4 grow on, all else that is seen is as when it began. */
    private static String apart(PhraseShelf x) {
        int versions = x.count(3);
        int segments = x.count(4);
        return Seen.of(x).replaceFirst(versions + " " + segments, "made");
    }

    private static void takesBackEachChange() {
        Change[] all = changes();
        for (int i = 0; i < all.length; i++) {
            PhraseShelf x = some();
            PhraseShelf other = some();
            int versions = x.count(3);
            int segments = x.count(4);
            x.begin();
            all[i].make(x);
            int laterVersions = x.count(3);
            int laterSegments = x.count(4);
            DUE.same("change " + i + ": rollback()", x.rollback(), 3);
            DUE.sameText("change " + i + " is taken back", apart(x), apart(other));
            DUE.same("versions made", x.count(3), laterVersions);
            DUE.same("segments made", x.count(4), laterSegments);
            DUE.same("no fewer", laterVersions >= versions && laterSegments >= segments ? 1 : 0, 1);
            DUE.same("flush() behind it", x.flush(), other.flush());
            DUE.sameText("change " + i + ": what was pending", apart(x), apart(other));
            DUE.same("optimize() behind it", x.optimize(), other.optimize());
            DUE.sameText("change " + i + ": what is live", apart(x), apart(other));
        }
    }

    private static void commitKeepsEachChange() {
        Change[] all = changes();
        for (int i = 0; i < all.length; i++) {
            PhraseShelf x = some();
            PhraseShelf other = some();
            x.begin();
            all[i].make(x);
            all[i].make(other);
            other.flush();
            DUE.same("change " + i + ": commit()", x.commit(), other.count(1));
            DUE.sameText("change " + i + " stays", Seen.of(x), Seen.of(other));
            DUE.refused("nothing to take back", IllegalStateException.class, x::rollback);
        }
    }

    private static void takesBackAllRows() {
        PhraseShelf x = new PhraseShelf();
        Due.texts(x, "p", "");
        x.begin();
        for (int r = 1; r <= 24; r++) {
            x.insert();
        }
        DUE.same("24 rows are none again", x.rollback(), 0);
        DUE.same("nothing pending", x.count(2), 0);
        DUE.same("no segments", x.count(1), 0);
        DUE.finds(x, "p", "");
        DUE.same("insert() begins at 1", x.insert(), 1);
        for (int r = 2; r <= 24; r++) {
            x.insert();
        }
        x.begin();
        for (int r = 1; r <= 24; r++) {
            x.delete(r);
        }
        DUE.same("none are 24 again", x.rollback(), 24);
        DUE.same("all are found", Due.ask(x, "p"), 24);
        DUE.refused("and there is no room", IndexOutOfBoundsException.class, x::insert);
    }

    private static void takesBackAllPending() {
        PhraseShelf x = new PhraseShelf();
        x.ways(9, 200);
        Due.insert(x, "p", "");
        for (int i = 1; i < 200; i++) {
            x.replace(1);
        }
        DUE.same("200 are pending", x.count(2), 200);
        x.begin();
        x.replace(1);
        DUE.same("201 are flushed", x.count(2), 0);
        x.replace(1);
        DUE.same("rollback()", x.rollback(), 1);
        DUE.same("200 again", x.count(2), 200);
        DUE.same("no segments", x.count(1), 0);
        x.replace(1);
        DUE.same("201 are flushed again", x.count(2), 0);
        DUE.sameText("the live one", Due.segments(x), "0:1:1");
    }

    private static void takesBackManySegments() {
        PhraseShelf x = new PhraseShelf();
        x.ways(9, 0);
        Due.insert(x, "p", "q");
        for (int i = 1; i < 99; i++) {
            x.replace(1);
        }
        String before = Due.segments(x);
        DUE.same("nine of level 1 and nine of level 0", x.count(1), 18);
        x.begin();
        x.replace(1);
        DUE.sameText("the 100th makes all one", Due.segments(x), "2:1:2");
        DUE.same("rollback()", x.rollback(), 1);
        DUE.sameText("all 18 are there", Due.segments(x), before);
        x.begin();
        x.delete(1);
        DUE.same("optimize() leaves none", x.optimize(), 18);
        DUE.same("none", x.count(1), 0);
        x.rollback();
        DUE.sameText("all 18 again", Due.segments(x), before);
    }

    private static void takesBackLevels() {
        PhraseShelf x = new PhraseShelf();
        x.ways(1, 0);
        Due.insert(x, "p", "");
        for (int i = 1; i < 31; i++) {
            x.replace(1);
        }
        DUE.sameText("one of each level", Due.segments(x), "4:1:1 3:1:1 2:1:1 1:1:1 0:1:1");
        x.begin();
        x.replace(1);
        DUE.sameText("all are one of the highest", Due.segments(x), "5:1:1");
        x.rollback();
        DUE.sameText("one of each again", Due.segments(x), "4:1:1 3:1:1 2:1:1 1:1:1 0:1:1");
        DUE.same("optimize()", x.optimize(), 5);
        DUE.sameText("with the live one alone", Due.segments(x), "4:1:1");
    }

    private static void oneBehindTheOther() {
        PhraseShelf x = new PhraseShelf();
        Due.insert(x, "p", "");
        x.begin();
        Due.insert(x, "q", "");
        x.commit();
        x.begin();
        Due.insert(x, "r", "");
        DUE.same("back to the second begin(), not the first", x.rollback(), 2);
        DUE.finds(x, "p OR q OR r", "1 2");
        x.begin();
        x.delete(1);
        x.rollback();
        x.begin();
        x.delete(2);
        DUE.same("nothing is left of the one before", x.rollback(), 2);
        Due.insert(x, "s", "");
        x.begin();
        DUE.same("what came between two stays", x.rollback(), 3);
    }

    private static void whatIsNotTakenBack() {
        PhraseShelf x = new PhraseShelf();
        Due.texts(x, "p", "");
        x.insert();
        x.insert();
        x.begin();
        Due.ask(x, "p p");
        DUE.wrongAt(x, "p )", 2);
        x.weight(0, 9);
        x.weight(1, 0);
        x.ways(1, 0);
        Due.texts(x, "q r", "q");
        Due.type(x, "dr");
        DUE.same("rollback()", x.rollback(), 2);
        DUE.same("answers", x.count(5), 2);
        DUE.same("phrases", x.count(6), 2);
        DUE.same("wrong place", x.wrong(), 2);
        DUE.same("draft", x.drop(), 2);
        DUE.same("weight of 0", x.weight(0, 1), 9);
        DUE.same("weight of 1", x.weight(1, 1), 0);
        DUE.same("texts", x.replace(1), 3);
        DUE.same("limit", x.count(2), 0);
        x.replace(2);
        DUE.sameText("most", Due.segments(x), "1:2:6");
    }

    private static void onlyCommitFlushes() {
        PhraseShelf x = new PhraseShelf();
        Due.insert(x, "p", "");
        x.begin();
        DUE.same("begin() does not", x.count(2), 1);
        x.rollback();
        DUE.same("rollback() does not", x.count(2), 1);
        DUE.refused("commit() that is refused", IllegalStateException.class, x::commit);
        DUE.same("does not", x.count(2), 1);
        x.delete(1);
        DUE.same("delete() does not", x.count(2), 1);
        x.ways(1, 0);
        DUE.same("ways() does not", x.count(2), 1);
        DUE.same("optimize() does not", x.optimize() + x.count(2), 1);
        x.begin();
        DUE.same("commit() does", x.commit() + x.count(2), 0);
    }

    private static void commitOfNothingMerges() {
        PhraseShelf x = new PhraseShelf();
        Due.texts(x, "p", "");
        for (int i = 0; i < 3; i++) {
            x.insert();
            x.flush();
        }
        x.begin();
        DUE.same("three are no more than three", x.commit(), 3);
        x.ways(2, 20);
        x.begin();
        DUE.same("but more than two", x.commit(), 1);
        DUE.sameText("made one", Due.segments(x), "1:3:3");
    }

    private static void versionsAreLiveAgain() {
        PhraseShelf x = new PhraseShelf();
        Due.insert(x, "p", "");
        x.flush();
        Due.insert(x, "q", "");
        x.begin();
        x.delete(1);
        x.delete(2);
        x.insert();
        x.rollback();
        DUE.same("flush()", x.flush(), 2);
        DUE.sameText("the pending one is live again", Due.segments(x), "0:1:1 0:1:1");
        x.begin();
        x.replace(1);
        x.replace(2);
        x.flush();
        x.rollback();
        DUE.same("optimize()", x.optimize(), 2);
        DUE.sameText("those in segments too", Due.segments(x), "0:2:2");
        DUE.finds(x, "p", "1");
    }

    private static void answersOfATransaction() {
        PhraseShelf x = new PhraseShelf();
        x.begin();
        Due.insert(x, "p", "");
        Due.insert(x, "q", "");
        Due.insert(x, "q", "");
        Due.ask(x, "p");
        double score = x.score(0, false);
        DUE.same("rollback()", x.rollback(), 0);
        DUE.same("its answers stay", x.answer(0, true), 1);
        DUE.sameReal("with their scores", x.score(0, true), score);
        DUE.finds(x, "p", "");
    }
}
