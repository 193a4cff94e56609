/** The edges of promises 1 to 4 and of what the terms say of letters, the draft, texts and tokens. */
public final class DraftEdgesTest {
    private static final Due DUE = new Due("DraftEdgesTest");
    private static final int DRAFT_MOST = 96;
    private static final int TEXT_MOST = 48;

    public static void main(String[] args) {
        newObjectHasNothing();
        newObjectIsEmptyToQuestions();
        everyOctetAtEveryPlace();
        upToTheFirstZero();
        everyLengthOfTheDraft();
        oneTooManyFromEveryLength();
        refusedLettersLeaveTheDraft();
        dropOfEveryLength();
        everyLengthOfAText();
        everyLetterInAText();
        tokensFromNoneToAsManyAsCanBe();
        bothColumns();
        everyColumnNumber();
        upperCaseIsLowerCase();
        DUE.end();
    }

    private static boolean isLetter(int octet) {
        return octet >= 32 && octet <= 126;
    }

    private static boolean isOfTokens(int c) {
        return "abcdefghijklmnopqrstuvwxyzABCDEFGHIJKLMNOPQRSTUVWXYZ0123456789".indexOf(c) >= 0;
    }

    private static PhraseShelf withDraft(String text) {
        PhraseShelf x = new PhraseShelf();
        Due.type(x, text);
        return x;
    }

    private static void newObjectHasNothing() {
        DUE.sameText("a new object", Seen.of(new PhraseShelf()), "counts 0 0 0 0 0 0 0 0 0, wrong -1, rows"
            + " -".repeat(24) + ", segments , answers");
        DUE.refused("begin() is not open", IllegalStateException.class, () -> new PhraseShelf().rollback());
        PhraseShelf x = new PhraseShelf();
        x.begin();
        DUE.same("rollback() of nothing", x.rollback(), 0);
        DUE.same("flush() of nothing", x.flush(), 0);
        DUE.same("optimize() of nothing", x.optimize(), 0);
        DUE.sameText("still nothing", Seen.of(x), Seen.of(new PhraseShelf()));
    }

    private static void newObjectIsEmptyToQuestions() {
        PhraseShelf x = new PhraseShelf();
        for (String question : new String[] {"p", "p*", "\"\"", "NEAR(p q)", "p NOT q", "p OR q", "^p", "-a:p"}) {
            DUE.finds(x, question, "");
        }
        DUE.refused("answer(0, true)", IndexOutOfBoundsException.class, () -> x.answer(0, true));
        DUE.refused("score(0, true)", IndexOutOfBoundsException.class, () -> x.score(0, true));
    }

    /** Each of the 256 octets at each of the 8 places, with letters before it and all zeros behind it. */
    private static void everyOctetAtEveryPlace() {
        for (int place = 0; place < 8; place++) {
            for (int octet = 0; octet < 256; octet++) {
                PhraseShelf x = new PhraseShelf();
                long w = Due.octets("ppppppp".substring(0, place)) | (long) octet << (8 * place);
                String name = "octet " + octet + " at " + place;
                if (isLetter(octet)) {
                    DUE.same(name, x.letters(w), place + 1);
                } else if (octet == 0 && place > 0) {
                    DUE.same(name, x.letters(w), place);
                } else {
                    DUE.refused(name, IllegalArgumentException.class, () -> x.letters(w));
                    DUE.same(name + ": nothing comes", x.count(8), 0);
                }
            }
        }
    }

    /** What stands behind the first 0 is not looked at, whatever it is. */
    private static void upToTheFirstZero() {
        long[] behind = {1, 31, 32, 'p', 126, 127, 128, 255};
        for (int letters = 1; letters <= 6; letters++) {
            for (long octet : behind) {
                PhraseShelf x = new PhraseShelf();
                long w = Due.octets("qqqqqq".substring(0, letters)) | octet << (8 * (letters + 1));
                DUE.same(letters + " letters, a 0 and " + octet, x.letters(w), letters);
                DUE.same("they are one token", x.set(0), 1);
            }
        }
        PhraseShelf x = new PhraseShelf();
        DUE.same("a 0 as the highest", x.letters(Due.octets("ppppppp")), 7);
        DUE.same("no 0 at all", x.letters(Due.octets("pppppppp")), 15);
        DUE.refused("a 0 as the lowest and letters behind it", IllegalArgumentException.class,
            () -> x.letters(Due.octets("ppppppp") << 8));
        DUE.same("the draft", x.count(8), 15);
    }

    private static void everyLengthOfTheDraft() {
        for (int step = 1; step <= 8; step++) {
            PhraseShelf x = new PhraseShelf();
            long w = Due.octets("pppppppp".substring(0, step));
            int length = 0;
            while (length + step <= DRAFT_MOST) {
                length += step;
                DUE.same("letters by " + step, x.letters(w), length);
                DUE.same("count(8)", x.count(8), length);
            }
            DUE.refused("beyond " + length + " by " + step, IndexOutOfBoundsException.class, () -> x.letters(w));
            DUE.same("the draft stays", x.drop(), length);
        }
    }

    /** From each length of the draft: as many as there is room for are taken, one more is refused. */
    private static void oneTooManyFromEveryLength() {
        for (int length = DRAFT_MOST - 7; length <= DRAFT_MOST; length++) {
            PhraseShelf x = withDraft("p".repeat(length));
            int room = DRAFT_MOST - length;
            long tooMany = Due.octets("q".repeat(room + 1));
            DUE.refused("97 from " + length, IndexOutOfBoundsException.class, () -> x.letters(tooMany));
            DUE.same("none of them came", x.count(8), length);
            if (room > 0) {
                DUE.same("96 from " + length, x.letters(Due.octets("q".repeat(room))), DRAFT_MOST);
            }
            DUE.refused("a bad one is told first", IllegalArgumentException.class, () -> x.letters(31));
        }
    }

    private static void refusedLettersLeaveTheDraft() {
        PhraseShelf x = withDraft("pq");
        DUE.refused("letters, a bad one among them", IllegalArgumentException.class,
            () -> x.letters(Due.octets("rst") | 127L << 24));
        DUE.same("letters go on", x.letters('z'), 3);
        x.set(0);
        x.insert();
        DUE.finds(x, "pqz", "1");
        DUE.finds(x, "pqr*", "");
    }

    private static void dropOfEveryLength() {
        for (int length = 0; length <= DRAFT_MOST; length++) {
            PhraseShelf x = withDraft("p".repeat(length));
            DUE.same("drop() of " + length, x.drop(), length);
            DUE.same("the draft is empty", x.count(8), 0);
            DUE.same("drop() again", x.drop(), 0);
            DUE.same("all the room is there again", withRoom(x), DRAFT_MOST);
        }
    }

    private static int withRoom(PhraseShelf x) {
        Due.type(x, "q".repeat(DRAFT_MOST));
        return x.count(8);
    }

    private static void everyLengthOfAText() {
        for (int length = 0; length <= DRAFT_MOST; length++) {
            for (int column = 0; column <= 1; column++) {
                PhraseShelf x = withDraft("p".repeat(length));
                String name = "set(" + column + ") of " + length;
                int where = column;
                if (length <= TEXT_MOST) {
                    DUE.same(name, x.set(column), length == 0 ? 0 : 1);
                    DUE.same("the draft is empty", x.count(8), 0);
                } else {
                    DUE.refused(name, IndexOutOfBoundsException.class, () -> x.set(where));
                    DUE.same("the draft stays", x.count(8), length);
                    x.insert();
                    DUE.same("no text was set", x.look(1, column), 0);
                }
            }
        }
        PhraseShelf x = withDraft("p".repeat(TEXT_MOST));
        x.set(1);
        x.insert();
        DUE.finds(x, "p".repeat(TEXT_MOST), "1");
        DUE.finds(x, "p".repeat(TEXT_MOST - 1), "");
        DUE.finds(x, "p".repeat(TEXT_MOST + 1), "");
        DUE.finds(x, "p".repeat(TEXT_MOST - 1) + "*", "1");
        DUE.finds(x, "p".repeat(TEXT_MOST + 1) + "*", "");
    }

    /** Each of the 95 letters between two others, alone, first and last. */
    private static void everyLetterInAText() {
        for (int c = 32; c <= 126; c++) {
            boolean word = isOfTokens(c);
            char letter = (char) c;
            DUE.same("p" + letter + "p", withDraft("p" + letter + "p").set(0), word ? 1 : 2);
            DUE.same("" + letter, withDraft("" + letter).set(1), word ? 1 : 0);
            DUE.same(letter + " p", withDraft(letter + " p").set(0), word ? 2 : 1);
            DUE.same("p " + letter, withDraft("p " + letter).set(1), word ? 2 : 1);
            DUE.same("48 of them", withDraft(("" + letter).repeat(TEXT_MOST)).set(0), word ? 1 : 0);
        }
    }

    private static void tokensFromNoneToAsManyAsCanBe() {
        for (int tokens = 0; tokens <= 24; tokens++) {
            PhraseShelf x = withDraft("p ".repeat(tokens));
            DUE.same(tokens + " tokens", x.set(0), tokens);
            Due.type(x, " p".repeat(tokens));
            DUE.same(tokens + " tokens", x.set(1), tokens);
            x.insert();
            DUE.same("look(1, 0)", x.look(1, 0), tokens);
            DUE.same("look(1, 1)", x.look(1, 1), tokens);
            DUE.same("entries", x.look(1, 2), tokens == 0 ? 0 : 2);
            DUE.same("delete(1)", x.delete(1), 2 * tokens);
        }
    }

    private static void bothColumns() {
        PhraseShelf x = new PhraseShelf();
        Due.type(x, "p");
        x.set(0);
        x.insert();
        DUE.finds(x, "a:p", "1");
        DUE.finds(x, "b:p", "");
        Due.type(x, "q");
        x.set(1);
        x.insert();
        DUE.finds(x, "a:p", "1 2");
        DUE.finds(x, "b:q", "2");
        DUE.finds(x, "a:q OR b:p", "");
        DUE.same("set again, before it is taken", withTexts(x, "r", "s"), 1);
        x.insert();
        DUE.finds(x, "r OR p NOT q", "1");
        DUE.finds(x, "s q", "3");
    }

    private static int withTexts(PhraseShelf x, String first, String then) {
        Due.type(x, first);
        x.set(0);
        Due.type(x, then);
        return x.set(0);
    }

    private static void everyColumnNumber() {
        for (int column = -300; column <= 300; column++) {
            PhraseShelf x = withDraft("p q");
            int where = column;
            if (column == 0 || column == 1) {
                DUE.same("set(" + column + ")", x.set(column), 2);
            } else {
                DUE.refused("set(" + column + ")", IllegalArgumentException.class, () -> x.set(where));
                DUE.same("the draft stays", x.count(8), 3);
            }
        }
    }

    private static void upperCaseIsLowerCase() {
        for (char c = 'A'; c <= 'Z'; c++) {
            PhraseShelf x = new PhraseShelf();
            char small = (char) (c + 32);
            DUE.same("insert", Due.insert(x, "" + c + small, "" + small + c + " " + c + c), 1);
            DUE.same("entries of " + c, x.look(1, 2), 3 - 1);
            DUE.finds(x, "\"" + small + small + "\"", "1");
            DUE.finds(x, "b:" + small + c + "+" + c + small, "1");
        }
        PhraseShelf x = new PhraseShelf();
        Due.insert(x, "@ [ ` { / : 0 9", "");
        DUE.same("signs beside the letters are none", x.look(1, 0), 2);
        Due.insert(x, "0 1 2 3 4 5 6 7 8 9", "0123456789");
        DUE.same("digits are all different", x.look(2, 2), 11);
    }
}
