/** Counts the answers of a test that are not as due, and tells them. */
final class Due {
    private final String test;
    private int asked;
    private int wrong;

    Due(String test) {
        this.test = test;
    }

    void same(String call, long got, long want) {
        told(call, got == want, String.valueOf(got), String.valueOf(want));
    }

    void sameReal(String call, double got, double want) {
        told(call, Double.compare(got, want) == 0, String.valueOf(got), String.valueOf(want));
    }

    void sameText(String call, String got, String want) {
        told(call, got.equals(want), got, want);
    }

    /** The call has to throw an exception of exactly that class. */
    void refused(String call, Class<? extends RuntimeException> want, Runnable run) {
        String got = "nothing";
        try {
            run.run();
        } catch (RuntimeException e) {
            got = e.getClass().getName();
        }
        told(call + " throws", got.equals(want.getName()), got, want.getName());
    }

    /** The draft has to be no question, with that wrong place. */
    void wrongAt(PhraseShelf x, String question, int want) {
        type(x, question);
        refused("ask <" + question + ">", IllegalArgumentException.class, x::ask);
        same("wrong() of <" + question + ">", x.wrong(), want);
    }

    /** The draft has to find these rows, told as their numbers with blanks between them. */
    void finds(PhraseShelf x, String question, String want) {
        StringBuilder rows = new StringBuilder();
        try {
            int found = ask(x, question);
            for (int k = 0; k < found; k++) {
                rows.append(k == 0 ? "" : " ").append(x.answer(k, false));
            }
            same("wrong() of <" + question + ">", x.wrong(), -1);
            same("answers of <" + question + ">", x.count(5), found);
        } catch (RuntimeException e) {
            rows.append(e.getClass().getName()).append(" at ").append(x.wrong());
        }
        sameText("ask <" + question + ">", rows.toString(), want);
    }

    /** Ends the program, with exit code 1 if an answer was wrong. */
    void end() {
        System.out.println(test + ": " + asked + " answers, " + wrong + " not as due");
        if (wrong != 0 || asked == 0) {
            System.exit(1);
        }
    }

    private void told(String call, boolean good, String got, String want) {
        asked++;
        if (!good) {
            wrong++;
            System.out.println(test + ": " + call + " answered " + got + ", due is " + want);
        }
    }

    static long octets(String text) {
        long w = 0;
        for (int i = 0; i < text.length(); i++) {
            w |= (long) text.charAt(i) << (8 * i);
        }
        return w;
    }

    static void type(PhraseShelf x, String text) {
        for (int i = 0; i < text.length(); i += 8) {
            x.letters(octets(text.substring(i, Math.min(i + 8, text.length()))));
        }
    }

    static int ask(PhraseShelf x, String question) {
        type(x, question);
        return x.ask();
    }

    static void texts(PhraseShelf x, String first, String second) {
        type(x, first);
        x.set(0);
        type(x, second);
        x.set(1);
    }

    static int insert(PhraseShelf x, String first, String second) {
        texts(x, first, second);
        return x.insert();
    }

    /** All segments, the oldest first, each as level:versions:entries. */
    static String segments(PhraseShelf x) {
        StringBuilder all = new StringBuilder();
        int size = x.count(1);
        for (int k = 0; k < size; k++) {
            all.append(k == 0 ? "" : " ").append(x.segment(k, 0)).append(':')
                    .append(x.segment(k, 1)).append(':').append(x.segment(k, 2));
        }
        return all.toString();
    }
}
