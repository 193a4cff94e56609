/** The edges of promises 11 to 13, 20 and 21, and of what the terms say of pending, flush, most and limit. */
public final class SegmentsEdgesTest {
    private static final Due DUE = new Due("SegmentsEdgesTest");
    private static final String TOKENS_24 = "a b c d e f g h i j k l m n o p q r s t u v w x";

    public static void main(String[] args) {
        limitAtFirst();
        mostAtFirst();
        everyLimit();
        limitByInsertAndByReplace();
        limitCountsTheDead();
        everyMostAtEveryLevel();
        theHighestLevelIsNotMerged();
        mergesGoUpInOneFlush();
        mergesSkipNoLevel();
        flushOfNoneOneAndAll();
        flushTakesOnlyTheLive();
        mergeKeepsOnlyTheLive();
        mergeOfNoneLeft();
        optimizeOfNoneOneAndMany();
        optimizeKeepsTheHighestLevel();
        optimizeLeavesThePending();
        everyMostAndLimitNumber();
        waysTogetherOrNotAtAll();
        waysDoNothingBeforeTheNextFlush();
        everySegmentNumber();
        oldestFirst();
        everyWhatOfCount();
        countsOfEachKind();
        DUE.end();
    }

    /** Versions of row 1 with so many entries in all; at most 48 go into one. */
    private static void putEntries(PhraseShelf x, int entries) {
        for (int left = entries; left > 0; left -= 48) {
            int now = Math.min(left, 48);
            int first = Math.min(now, 24);
            Due.texts(x, TOKENS_24.substring(0, 2 * first - 1), TOKENS_24.substring(0, Math.max(0, 2 * (now - first) - 1)));
            if (x.count(0) == 0) {
                x.insert();
            } else {
                DUE.same("entries", x.replace(1), now);
            }
        }
    }

    private static void limitAtFirst() {
        PhraseShelf x = new PhraseShelf();
        putEntries(x, 20);
        DUE.same("20 are pending", x.count(2), 20);
        putEntries(x, 1);
        DUE.same("21 are not", x.count(2), 0);
    }

    private static void mostAtFirst() {
        PhraseShelf x = new PhraseShelf();
        for (int i = 1; i <= 3; i++) {
            putEntries(x, 1);
            DUE.same("flush()", x.flush(), i);
        }
        putEntries(x, 1);
        DUE.same("flush() makes four one", x.flush(), 1);
    }

    private static void everyLimit() {
        for (int limit = 0; limit <= 200; limit++) {
            PhraseShelf x = new PhraseShelf();
            x.ways(3, limit);
            putEntries(x, limit);
            DUE.same("limit " + limit + ": so many are pending", x.count(2), limit);
            DUE.same("limit " + limit + ": none made", x.count(4), 0);
            putEntries(x, 1);
            DUE.same("limit " + limit + ": one more and none is pending", x.count(2), 0);
            DUE.sameText("limit " + limit + ": the live one", Due.segments(x), "0:1:1");
        }
    }

    private static void limitByInsertAndByReplace() {
        PhraseShelf x = new PhraseShelf();
        x.ways(9, 2);
        Due.texts(x, "p", "");
        x.insert();
        x.insert();
        DUE.same("two by insert", x.count(2), 2);
        x.insert();
        DUE.sameText("the third flushes", Due.segments(x), "0:3:3");
        x.replace(1);
        x.replace(2);
        DUE.same("two by replace", x.count(2), 2);
        x.replace(3);
        DUE.sameText("the third flushes", Due.segments(x), "0:3:3 0:3:3");
        x.replace(1);
        x.replace(2);
        x.delete(3);
        DUE.same("delete flushes nothing", x.count(2), 2);
        Due.texts(x, "", "");
        x.insert();
        DUE.same("nor does a row without entries", x.count(2), 2);
        x.ways(9, 1);
        x.replace(3);
        DUE.sameText("but it does if there are more than the limit before", Due.segments(x), "0:3:3 0:3:3 0:2:2");
    }

    private static void limitCountsTheDead() {
        PhraseShelf x = new PhraseShelf();
        x.ways(9, 3);
        Due.insert(x, "p q", "");
        x.delete(1);
        Due.insert(x, "p", "");
        DUE.same("three are pending, one is live", x.count(2), 3);
        x.delete(1);
        Due.insert(x, "r", "");
        DUE.sameText("four are more than three", Due.segments(x), "0:1:1");
        x.replace(1);
        x.replace(1);
        x.replace(1);
        DUE.same("three versions of a row", x.count(2), 3);
        x.replace(1);
        DUE.sameText("and a fourth", Due.segments(x), "0:1:1 0:1:1");
    }

    /** As many segments of a level as most tells stay; one more and all are one of the next level. */
    private static void everyMostAtEveryLevel() {
        int[] highestMost = {9, 9, 5, 3, 2};
        for (int level = 0; level < highestMost.length; level++) {
            for (int most = 1; most <= highestMost[level]; most++) {
                mostAtLevel(most, level);
            }
        }
    }

    private static void mostAtLevel(int most, int level) {
        PhraseShelf x = new PhraseShelf();
        x.ways(most, 0);
        Due.insert(x, "p", "");
        int flushes = 1;
        for (int i = 0; i <= level; i++) {
            flushes *= most + 1;
        }
        StringBuilder want = new StringBuilder();
        for (int i = level; i >= 0; i--) {
            want.append((i + ":1:1 ").repeat(most));
        }
        for (int i = 2; i < flushes; i++) {
            x.replace(1);
        }
        String name = "most " + most + " at level " + level;
        DUE.sameText(name, Due.segments(x) + " ", want.toString());
        x.replace(1);
        DUE.sameText(name + ": one more", Due.segments(x), (level + 1) + ":1:1");
    }

    private static void theHighestLevelIsNotMerged() {
        PhraseShelf x = new PhraseShelf();
        x.ways(1, 0);
        Due.insert(x, "p", "");
        for (int i = 1; i < 32 * 6; i++) {
            x.replace(1);
        }
        DUE.sameText("six of level 5", Due.segments(x), "5:1:1 5:1:1 5:1:1 5:1:1 5:1:1 5:1:1");
        DUE.same("flush()", x.flush(), 6);
        DUE.same("optimize()", x.optimize(), 6);
        DUE.sameText("of level 5, not of 6", Due.segments(x), "5:1:1");
        for (int i = 0; i < 31; i++) {
            x.replace(1);
        }
        DUE.sameText("one of each", Due.segments(x), "5:1:1 4:1:1 3:1:1 2:1:1 1:1:1 0:1:1");
    }

    private static void mergesGoUpInOneFlush() {
        PhraseShelf x = new PhraseShelf();
        x.ways(1, 0);
        Due.insert(x, "p", "");
        for (int i = 1; i < 31; i++) {
            x.replace(1);
        }
        int made = x.count(4);
        DUE.same("five segments", x.count(1), 5);
        x.replace(1);
        DUE.sameText("one flush makes them one", Due.segments(x), "5:1:1");
        DUE.same("one is made at each level", x.count(4), made + 6);
    }

    /** Level 0 is not above most, level 1 is: the levels are looked at one by one. */
    private static void mergesSkipNoLevel() {
        PhraseShelf x = new PhraseShelf();
        x.ways(2, 0);
        Due.texts(x, "p", "");
        for (int r = 1; r <= 7; r++) {
            x.insert();
        }
        DUE.sameText("two and one", Due.segments(x), "1:3:3 1:3:3 0:1:1");
        x.ways(1, 0);
        DUE.same("flush()", x.flush(), 2);
        DUE.sameText("only level 1 is made one", Due.segments(x), "0:1:1 2:6:6");
        PhraseShelf y = new PhraseShelf();
        y.ways(2, 0);
        Due.texts(y, "p", "");
        for (int r = 1; r <= 5; r++) {
            y.insert();
        }
        y.ways(1, 0);
        DUE.sameText("one and two", Due.segments(y), "1:3:3 0:1:1 0:1:1");
        DUE.same("flush()", y.flush(), 1);
        DUE.sameText("level 0 is made one, and level 1 with that", Due.segments(y), "2:5:5");
    }

    private static void flushOfNoneOneAndAll() {
        PhraseShelf x = new PhraseShelf();
        DUE.same("flush() of none", x.flush(), 0);
        Due.insert(x, "p", "");
        DUE.same("flush() of one", x.flush(), 1);
        DUE.same("nothing is pending then", x.count(2), 0);
        DUE.same("flush() again", x.flush(), 1);
        DUE.same("none is made by that", x.count(4), 1);
        PhraseShelf y = new PhraseShelf();
        y.ways(1, 200);
        Due.texts(y, "a b c d", "e f g h");
        for (int r = 1; r <= 24; r++) {
            y.insert();
        }
        DUE.same("24 rows of 8 entries are pending", y.count(2), 192);
        DUE.same("flush() of 24 rows", y.flush(), 1);
        DUE.sameText("all of them", Due.segments(y), "0:24:192");
    }

    private static void flushTakesOnlyTheLive() {
        PhraseShelf x = new PhraseShelf();
        Due.insert(x, "p q", "");
        Due.insert(x, "p", "");
        Due.insert(x, "", "");
        x.delete(1);
        Due.texts(x, "r s t", "");
        x.replace(2);
        DUE.same("pending, live or not", x.count(2), 6);
        DUE.same("flush()", x.flush(), 1);
        DUE.sameText("the one that is live and has entries", Due.segments(x), "0:1:3");
        x.replace(2);
        x.delete(2);
        DUE.same("none is live", x.count(2), 3);
        DUE.same("flush() makes none", x.flush(), 1);
        DUE.same("nothing is pending all the same", x.count(2), 0);
        DUE.same("made", x.count(4), 1);
    }

    private static void mergeKeepsOnlyTheLive() {
        PhraseShelf x = new PhraseShelf();
        x.ways(3, 200);
        String[] texts = {"p", "p q", "p q r"};
        for (String text : texts) {
            Due.insert(x, text, "");
            x.flush();
        }
        x.delete(2);
        Due.texts(x, "s", "s");
        x.replace(1);
        DUE.sameText("the dead stay until they are merged", Due.segments(x), "0:1:1 0:1:2 0:1:3");
        DUE.same("flush()", x.flush(), 1);
        DUE.sameText("row 3 and the new version of row 1", Due.segments(x), "1:2:5");
    }

    private static void mergeOfNoneLeft() {
        PhraseShelf x = new PhraseShelf();
        x.ways(2, 200);
        Due.texts(x, "p", "");
        for (int r = 1; r <= 2; r++) {
            x.insert();
            x.flush();
        }
        x.delete(1);
        x.delete(2);
        x.ways(1, 200);
        DUE.same("flush() leaves none", x.flush(), 0);
        DUE.same("none is made", x.count(4), 2);
        x.insert();
        DUE.same("flush()", x.flush(), 1);
        DUE.sameText("it goes on at level 0", Due.segments(x), "0:1:1");
        x.delete(1);
        x.insert();
        DUE.same("one is left of two", x.flush(), 1);
        DUE.sameText("of the next level", Due.segments(x), "1:1:1");
    }

    private static void optimizeOfNoneOneAndMany() {
        PhraseShelf x = new PhraseShelf();
        DUE.same("optimize() of none", x.optimize(), 0);
        DUE.same("none made", x.count(4), 0);
        Due.insert(x, "p", "");
        x.flush();
        DUE.same("optimize() of one", x.optimize(), 1);
        DUE.sameText("it is there", Due.segments(x), "0:1:1");
        x.delete(1);
        DUE.same("optimize() of a dead one", x.optimize(), 1);
        DUE.same("none left", x.count(1), 0);
        DUE.same("optimize() again", x.optimize(), 0);
        for (int many = 2; many <= 9; many++) {
            PhraseShelf y = new PhraseShelf();
            y.ways(9, 0);
            Due.texts(y, "p", "q");
            for (int i = 0; i < many; i++) {
                y.insert();
            }
            DUE.same("optimize() of " + many, y.optimize(), many);
            DUE.sameText("with all versions", Due.segments(y), "0:" + many + ":" + 2 * many);
            DUE.same("one more is made", y.count(4), many + 1);
        }
    }

    private static void optimizeKeepsTheHighestLevel() {
        for (int level = 0; level <= 5; level++) {
            PhraseShelf x = new PhraseShelf();
            x.ways(1, 0);
            Due.insert(x, "p", "");
            for (int i = 1; i < 1 << level; i++) {
                x.replace(1);
            }
            DUE.sameText("level " + level, Due.segments(x), level + ":1:1");
            x.ways(9, 0);
            Due.insert(x, "q", "");
            Due.insert(x, "r s", "");
            DUE.same("optimize()", x.optimize(), 3);
            DUE.sameText("the highest of " + level + ", 0 and 0", Due.segments(x), level + ":3:4");
        }
    }

    private static void optimizeLeavesThePending() {
        PhraseShelf x = new PhraseShelf();
        Due.insert(x, "p", "");
        DUE.same("optimize() with one pending", x.optimize(), 0);
        DUE.same("it is pending", x.count(2), 1);
        DUE.same("flush()", x.flush(), 1);
        Due.insert(x, "q r", "");
        DUE.same("optimize()", x.optimize(), 1);
        DUE.same("pending", x.count(2), 2);
        DUE.sameText("not in it", Due.segments(x), "0:1:1");
        x.ways(1, 20);
        x.optimize();
        DUE.sameText("optimize() makes no level higher", Due.segments(x), "0:1:1");
    }

    private static void everyMostAndLimitNumber() {
        for (int most = -3; most <= 13; most++) {
            for (int limit : new int[] {-300, -2, -1, 0, 1, 2, 199, 200, 201, 202, 456}) {
                PhraseShelf x = new PhraseShelf();
                int m = most;
                String name = "ways(" + most + ", " + limit + ")";
                if (most >= 1 && most <= 9 && limit >= 0 && limit <= 200) {
                    x.ways(most, limit);
                    DUE.same(name, x.count(1), 0);
                } else {
                    DUE.refused(name, IllegalArgumentException.class, () -> x.ways(m, limit));
                }
            }
        }
        for (int limit = -5; limit <= 260; limit++) {
            PhraseShelf x = new PhraseShelf();
            int l = limit;
            if (limit < 0 || limit > 200) {
                DUE.refused("ways(3, " + limit + ")", IllegalArgumentException.class, () -> x.ways(3, l));
            }
        }
    }

    /** If one number is out of range the other is not taken either. */
    private static void waysTogetherOrNotAtAll() {
        PhraseShelf x = new PhraseShelf();
        x.ways(1, 1);
        DUE.refused("ways(9, 201)", IllegalArgumentException.class, () -> x.ways(9, 201));
        DUE.refused("ways(10, 200)", IllegalArgumentException.class, () -> x.ways(10, 200));
        Due.texts(x, "p", "");
        x.insert();
        DUE.same("one is not more than one", x.count(2), 1);
        x.insert();
        DUE.same("two are", x.count(2), 0);
        x.insert();
        x.insert();
        DUE.sameText("two segments are more than one", Due.segments(x), "1:4:4");
    }

    private static void waysDoNothingBeforeTheNextFlush() {
        PhraseShelf x = new PhraseShelf();
        x.ways(9, 20);
        Due.texts(x, "p", "");
        for (int r = 1; r <= 9; r++) {
            x.insert();
            x.flush();
        }
        x.insert();
        x.ways(1, 0);
        DUE.same("segments", x.count(1), 9);
        DUE.same("pending", x.count(2), 1);
        x.delete(10);
        DUE.same("delete does nothing to them", x.count(1), 9);
        Due.texts(x, "", "");
        x.insert();
        DUE.sameText("insert flushes: what was pending is more than 0", Due.segments(x), "1:9:9");
        DUE.same("nothing is pending", x.count(2), 0);
    }

    private static void everySegmentNumber() {
        for (int size = 0; size <= 9; size++) {
            PhraseShelf x = new PhraseShelf();
            x.ways(9, 0);
            Due.texts(x, "p", "");
            for (int i = 0; i < size; i++) {
                x.insert();
            }
            for (int k = -3; k <= 14; k++) {
                for (int what = -2; what <= 4; what++) {
                    segmentNumber(x, size, k, what);
                }
            }
        }
    }

    private static void segmentNumber(PhraseShelf x, int size, int k, int what) {
        String name = "segment(" + k + ", " + what + ") of " + size;
        if (k < 0 || k >= size) {
            DUE.refused(name, IndexOutOfBoundsException.class, () -> x.segment(k, what));
        } else if (what < 0 || what > 2) {
            DUE.refused(name, IllegalArgumentException.class, () -> x.segment(k, what));
        } else {
            DUE.same(name, x.segment(k, what), what == 0 ? 0 : 1);
        }
    }

    private static void oldestFirst() {
        PhraseShelf x = new PhraseShelf();
        x.ways(9, 0);
        String[] texts = {"a", "a b", "a b c", "a b c d"};
        for (String text : texts) {
            Due.insert(x, text, "");
        }
        DUE.sameText("by their age", Due.segments(x), "0:1:1 0:1:2 0:1:3 0:1:4");
        x.optimize();
        Due.insert(x, "a b c d e", "");
        DUE.sameText("one of others is older than what comes behind it", Due.segments(x), "0:4:10 0:1:5");
        x.ways(1, 0);
        Due.insert(x, "a", "");
        Due.insert(x, "a b", "");
        DUE.sameText("level 1, then level 0", Due.segments(x), "1:6:16 0:1:2");
        x.ways(9, 0);
        Due.insert(x, "a", "");
        x.ways(1, 0);
        Due.insert(x, "a b c", "");
        DUE.sameText("three of level 0 and two of level 1 are one", Due.segments(x), "2:9:22");
    }

    private static void everyWhatOfCount() {
        for (int what = -20; what <= 30; what++) {
            PhraseShelf x = new PhraseShelf();
            int which = what;
            if (what >= 0 && what <= 8) {
                DUE.same("count(" + what + ")", x.count(what), 0);
            } else {
                DUE.refused("count(" + what + ")", IllegalArgumentException.class, () -> x.count(which));
            }
        }
    }

    /** Each call that can change a count, and all nine counts behind it. */
    private static void countsOfEachKind() {
        PhraseShelf x = new PhraseShelf();
        Due.type(x, "p q");
        counts(x, "letters", "0 0 0 0 0 0 0 0 3");
        x.set(0);
        counts(x, "set", "0 0 0 0 0 0 0 0 0");
        x.insert();
        counts(x, "insert", "1 0 2 1 0 0 0 0 0");
        x.replace(1);
        counts(x, "replace", "1 0 4 2 0 0 0 0 0");
        x.flush();
        counts(x, "flush", "1 1 0 2 1 0 0 0 0");
        Due.ask(x, "p + q OR r");
        counts(x, "ask", "1 1 0 2 1 1 2 0 0");
        x.begin();
        counts(x, "begin", "1 1 0 2 1 1 2 1 0");
        x.insert();
        x.flush();
        counts(x, "insert and flush", "2 2 0 3 2 1 2 1 0");
        x.optimize();
        counts(x, "optimize", "2 1 0 3 3 1 2 1 0");
        x.rollback();
        counts(x, "rollback", "1 1 0 3 3 1 2 0 0");
        x.delete(1);
        counts(x, "delete", "0 1 0 3 3 1 2 0 0");
        x.optimize();
        counts(x, "optimize, none left", "0 0 0 3 3 1 2 0 0");
        DUE.wrongAt(x, "r r r (", 7);
        counts(x, "ask, wrong", "0 0 0 3 3 1 2 0 0");
        Due.ask(x, "r");
        counts(x, "ask, nothing found", "0 0 0 3 3 0 1 0 0");
    }

    private static void counts(PhraseShelf x, String name, String want) {
        StringBuilder got = new StringBuilder();
        for (int what = 0; what <= 8; what++) {
            got.append(what == 0 ? "" : " ").append(x.count(what));
        }
        DUE.sameText("counts behind " + name, got.toString(), want);
    }
}
