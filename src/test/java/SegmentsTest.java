/** Promises 11 to 13, 20 and 21: flush, optimize, ways, segment and count. */
public final class SegmentsTest {
    private static final Due DUE = new Due("SegmentsTest");

    public static void main(String[] args) {
        flush();
        flushWithoutLiveVersions();
        flushMergesAll();
        limit();
        levels();
        topLevelGrows();
        mergeDropsTheDead();
        mergeOfNoneLeft();
        order();
        optimize();
        waysRefused();
        segmentRefused();
        count();
        DUE.end();
    }

    private static void flush() {
        PhraseShelf x = new PhraseShelf();
        Due.insert(x, "a b", "a");
        Due.insert(x, "", "c");
        Due.insert(x, "-", "?");
        DUE.same("pending", x.count(2), 4);
        DUE.same("flush()", x.flush(), 1);
        DUE.sameText("one segment, without the empty version", Due.segments(x), "0:2:4");
        DUE.same("nothing pending", x.count(2), 0);
        DUE.same("flush() with nothing", x.flush(), 1);
        DUE.same("made", x.count(4), 1);
        x.delete(1);
        DUE.sameText("a segment has its versions, live or not", Due.segments(x), "0:2:4");
    }

    private static void flushWithoutLiveVersions() {
        PhraseShelf x = new PhraseShelf();
        Due.insert(x, "a b", "");
        x.delete(1);
        DUE.same("pending and not live", x.count(2), 2);
        DUE.same("flush() of none", x.flush(), 0);
        DUE.same("nothing pending", x.count(2), 0);
        DUE.same("none made", x.count(4), 0);
        Due.insert(x, "a b", "");
        Due.texts(x, "c", "");
        x.replace(1);
        x.replace(1);
        DUE.same("three versions pending", x.count(2), 4);
        DUE.same("flush() of one", x.flush(), 1);
        DUE.sameText("only the live one", Due.segments(x), "0:1:1");
        Due.insert(x, "", "");
        DUE.same("flush() of an empty row", x.flush(), 1);
    }

    private static void flushMergesAll() {
        PhraseShelf x = new PhraseShelf();
        for (int i = 0; i < 3; i++) {
            Due.insert(x, "a", "");
            x.flush();
        }
        x.ways(1, 20);
        DUE.same("ways() alone does nothing", x.count(1), 3);
        DUE.same("flush() with nothing pending merges", x.flush(), 1);
        DUE.sameText("the three are one", Due.segments(x), "1:3:3");
        DUE.same("made", x.count(4), 4);
    }

    private static void limit() {
        PhraseShelf x = new PhraseShelf();
        x.ways(9, 2);
        Due.insert(x, "a", "a");
        DUE.same("two are not more than two", x.count(1), 0);
        x.insert();
        DUE.same("four are", x.count(1), 1);
        Due.texts(x, "a b", "");
        x.replace(1);
        DUE.same("replace: two are not", x.count(2), 2);
        x.replace(1);
        DUE.sameText("replace: four are, two of them live", Due.segments(x), "0:2:4 0:1:2");
        x.ways(9, 0);
        Due.texts(x, "", "");
        x.insert();
        DUE.same("none are not more than none", x.count(4), 2);
        Due.insert(x, "a", "");
        DUE.same("one is", x.count(4), 3);
        x.ways(9, 200);
        Due.texts(x, "a b c d e f g h i j k l m n o p q r s t u v w x", "a b c d e f g h i j k l m n o p");
        for (int i = 0; i < 5; i++) {
            DUE.same("40 entries", x.replace(1), 40);
        }
        DUE.same("200 pending", x.count(2), 200);
        x.ways(9, 0);
        DUE.same("a lower limit alone flushes nothing", x.count(2), 200);
        x.ways(9, 200);
        Due.texts(x, "a", "");
        DUE.same("one more", x.replace(1), 1);
        DUE.same("201 are flushed", x.count(2), 0);
        x.ways(9, 200);
        for (int i = 0; i < 200; i++) {
            x.replace(1);
        }
        DUE.same("200 versions pending", x.count(2), 200);
        int made = x.count(4);
        x.replace(1);
        DUE.same("201 versions are flushed", x.count(2), 0);
        DUE.same("one segment of the one that is live", x.count(4), made + 1);
        DUE.same("with one version", x.segment(x.count(1) - 1, 1), 1);
    }

    private static void levels() {
        PhraseShelf x = new PhraseShelf();
        x.ways(1, 0);
        Due.texts(x, "a", "");
        String[] want = {"0:1:1", "1:2:2", "1:2:2 0:1:1", "2:4:4", "2:4:4 0:1:1", "2:4:4 1:2:2",
            "2:4:4 1:2:2 0:1:1", "3:8:8"};
        for (int i = 0; i < want.length; i++) {
            x.insert();
            DUE.sameText("most 1, insert " + (i + 1), Due.segments(x), want[i]);
        }
        DUE.same("made: 8, 4, 2 and 1", x.count(4), 15);
        x.ways(2, 0);
        for (int i = 0; i < 3; i++) {
            x.insert();
        }
        DUE.sameText("most 2", Due.segments(x), "3:8:8 1:3:3");
    }

    private static void topLevelGrows() {
        PhraseShelf x = new PhraseShelf();
        x.ways(1, 0);
        Due.texts(x, "a", "");
        for (int r = 1; r <= 24; r++) {
            x.insert();
        }
        for (int i = 24; i < 32; i++) {
            x.replace(1 + i % 24);
        }
        DUE.sameText("32 make one of the highest level", Due.segments(x), "5:24:24");
        for (int i = 0; i < 32; i++) {
            x.replace(1 + i % 24);
        }
        DUE.sameText("the highest are not merged", Due.segments(x), "5:24:24 5:24:24");
        for (int i = 0; i < 32; i++) {
            x.replace(1 + i % 24);
        }
        DUE.same("three of them", x.count(1), 3);
        DUE.same("optimize()", x.optimize(), 3);
        DUE.sameText("of the same level", Due.segments(x), "5:24:24");
    }

    private static void mergeDropsTheDead() {
        PhraseShelf x = new PhraseShelf();
        x.ways(1, 200);
        Due.insert(x, "a", "b");
        Due.insert(x, "c", "");
        x.flush();
        x.delete(1);
        Due.insert(x, "d e", "f");
        DUE.same("flush() merges", x.flush(), 1);
        DUE.sameText("row 1 has another version now", Due.segments(x), "1:2:4");
        x.delete(1);
        x.delete(2);
        Due.insert(x, "g", "");
        x.flush();
        x.delete(1);
        DUE.sameText("all dead", Due.segments(x), "1:2:4 0:1:1");
        DUE.same("made", x.count(4), 4);
        Due.insert(x, "", "");
        Due.insert(x, "h", "");
        DUE.same("flush()", x.flush(), 1);
        DUE.sameText("level 0 merged to 1, level 1 merged to 2", Due.segments(x), "2:1:1");
        DUE.same("made: of level 0, 1 and 2", x.count(4), 7);
    }

    private static void mergeOfNoneLeft() {
        PhraseShelf x = new PhraseShelf();
        flushed(x, "a");
        flushed(x, "b");
        x.delete(1);
        x.delete(2);
        DUE.same("flush() leaves them", x.flush(), 2);
        x.ways(1, 20);
        DUE.same("made one with no versions: none", x.flush(), 0);
        DUE.same("made", x.count(4), 2);
    }

    private static void order() {
        PhraseShelf x = new PhraseShelf();
        x.ways(2, 200);
        flushed(x, "a");
        flushed(x, "a b");
        flushed(x, "a b c");
        flushed(x, "a b c d");
        DUE.sameText("the merged one is older than what came behind it", Due.segments(x), "1:3:6 0:1:4");
        flushed(x, "a");
        flushed(x, "a b");
        DUE.sameText("and younger than what was before", Due.segments(x), "1:3:6 1:3:7");
        x.ways(9, 200);
        flushed(x, "a");
        x.ways(1, 200);
        x.flush();
        DUE.sameText("level 1 goes up, level 0 stays older", Due.segments(x), "0:1:1 2:6:13");
    }

    private static void flushed(PhraseShelf x, String text) {
        Due.insert(x, text, "");
        x.flush();
    }

    private static void optimize() {
        PhraseShelf x = new PhraseShelf();
        x.ways(1, 200);
        flushed(x, "a");
        flushed(x, "b");
        flushed(x, "c");
        Due.insert(x, "d e", "");
        DUE.sameText("before", Due.segments(x), "1:2:2 0:1:1");
        x.delete(2);
        DUE.same("optimize()", x.optimize(), 2);
        DUE.sameText("one of the highest level, the live ones", Due.segments(x), "1:2:2");
        DUE.same("made", x.count(4), 5);
        DUE.same("pending stays", x.count(2), 2);
        DUE.same("optimize() of one", x.optimize(), 1);
        DUE.same("it is made anew", x.count(4), 6);
        x.delete(1);
        x.delete(3);
        DUE.same("optimize() of dead ones", x.optimize(), 1);
        DUE.same("none left", x.count(1), 0);
        DUE.same("none made", x.count(4), 6);
        DUE.same("optimize() of none", x.optimize(), 0);
        DUE.finds(x, "d", "4");
    }

    private static void waysRefused() {
        PhraseShelf x = new PhraseShelf();
        int[][] bad = {{0, 20}, {10, 20}, {3, -1}, {3, 201}, {-1, -1}, {Integer.MAX_VALUE, 0},
            {1, Integer.MAX_VALUE}, {Integer.MIN_VALUE, 0}, {1, Integer.MIN_VALUE}, {0, 0}, {1, -1}};
        for (int[] b : bad) {
            DUE.refused("ways(" + b[0] + ", " + b[1] + ")", IllegalArgumentException.class,
                () -> x.ways(b[0], b[1]));
        }
        for (int i = 0; i < 3; i++) {
            flushed(x, "a");
        }
        DUE.same("a refused call changes nothing", x.count(1), 3);
        Due.insert(x, "a", "");
        DUE.same("nor the limit", x.count(2), 1);
        x.ways(9, 200);
        x.ways(1, 0);
        x.ways(9, 0);
        for (int i = 0; i < 6; i++) {
            Due.insert(x, "a", "");
        }
        DUE.same("nine of a level", x.count(1), 9);
        Due.insert(x, "a", "");
        DUE.same("ten are one", x.count(1), 1);
    }

    private static void segmentRefused() {
        PhraseShelf x = new PhraseShelf();
        flushed(x, "a b");
        for (int k : new int[] {-1, 1, 511, 512, Integer.MIN_VALUE, Integer.MAX_VALUE}) {
            DUE.refused("segment(" + k + ", 0)", IndexOutOfBoundsException.class, () -> x.segment(k, 0));
            DUE.refused("segment(" + k + ", 3)", IndexOutOfBoundsException.class, () -> x.segment(k, 3));
        }
        for (int what : new int[] {-1, 3, Integer.MIN_VALUE, Integer.MAX_VALUE}) {
            DUE.refused("segment(0, " + what + ")", IllegalArgumentException.class, () -> x.segment(0, what));
        }
        DUE.same("level", x.segment(0, 0), 0);
        DUE.same("versions", x.segment(0, 1), 1);
        DUE.same("entries", x.segment(0, 2), 2);
    }

    private static void count() {
        PhraseShelf x = new PhraseShelf();
        Due.insert(x, "a b", "a");
        Due.insert(x, "c", "");
        x.replace(1);
        x.flush();
        Due.insert(x, "d e", "f");
        x.delete(2);
        Due.ask(x, "a OR d + e OR NEAR(f g)");
        x.begin();
        Due.type(x, "draft");
        int[] want = {2, 1, 3, 4, 1, 1, 4, 1, 5};
        for (int what = 0; what < want.length; what++) {
            DUE.same("count(" + what + ")", x.count(what), want[what]);
        }
        for (int what : new int[] {-1, 9, Integer.MIN_VALUE, Integer.MAX_VALUE}) {
            DUE.refused("count(" + what + ")", IllegalArgumentException.class, () -> x.count(what));
        }
        x.drop();
        DUE.wrongAt(x, "a b c (", 7);
        DUE.same("phrases of the latest good one", x.count(6), 4);
        DUE.same("its answers", x.count(5), 1);
        DUE.finds(x, "\"\"", "");
        DUE.same("phrases", x.count(6), 1);
        DUE.same("no answers", x.count(5), 0);
    }
}
