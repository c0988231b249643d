/** What the tests share: a book fed as text, and answers held against those that are due. */
final class Checks {
    static final String THROWS_ILLEGAL = "throws.IllegalArgumentException";
    static final String THROWS_NO_SUCH = "throws.NoSuchElementException";

    private final String title;
    private String words = "";
    private int sentences;
    private int done;
    private int wrong;

    Checks(String title) {
        this.title = title;
    }

    /** The document's words that the answers from here on are held against. */
    void sentence(String quoted) {
        words = " \"" + quoted + "\"";
        sentences++;
    }

    void due(String what, int got, int want) {
        due(what, Integer.toString(got), Integer.toString(want));
    }

    void due(String what, String got, String want) {
        done++;
        if (!got.equals(want)) {
            wrong++;
            System.out.println(title + words + ": " + shortened(what) + " answered " + got + ", due is " + want);
        }
    }

    private static String shortened(String text) {
        return text.length() <= 300 ? text : text.substring(0, 140) + " .. " + text.substring(text.length() - 140);
    }

    /** Feeds the text, with blanks behind it up to a whole feed. */
    static void feed(PromptBook book, String text) {
        StringBuilder all = new StringBuilder(text);
        while (all.length() % 20 != 0) {
            all.append(' ');
        }
        for (int i = 0; i < all.length(); i += 20) {
            book.feed(four(all, i), four(all, i + 4), four(all, i + 8), four(all, i + 12), four(all, i + 16));
        }
    }

    private static int four(StringBuilder text, int at) {
        int number = 0;
        for (int i = 0; i < 4; i++) {
            number = number << 8 | (text.charAt(at + i) & 255);
        }
        return number;
    }

    /** Feeds and takes a text: what book() answered. */
    static String take(PromptBook book, String text) {
        feed(book, text);
        return bookOf(book, text.length());
    }

    static String bookOf(PromptBook book, int n) {
        try {
            return Integer.toString(book.book(n));
        } catch (RuntimeException thrown) {
            return "throws." + thrown.getClass().getSimpleName();
        }
    }

    static String saidOf(PromptBook book, int i) {
        try {
            return Integer.toString(book.said(i));
        } catch (RuntimeException thrown) {
            return "throws." + thrown.getClass().getSimpleName();
        }
    }

    /** A book that must be sound. */
    PromptBook sound(String text) {
        PromptBook book = new PromptBook();
        String answer = take(book, text);
        if (answer.startsWith("throws")) {
            due("book of " + text + " (FAULT " + book.fault(0) + " at " + book.fault(1) + ")", answer, "a number");
        } else {
            due("fault(0) of " + text, book.fault(0), 0);
            due("fault(1) of " + text, book.fault(1), -1);
        }
        return book;
    }

    /** The text has this FAULT at its mark ^, which is no part of it. */
    void faulty(int kind, String marked) {
        int place = marked.indexOf('^');
        String text = marked.substring(0, place) + marked.substring(place + 1);
        PromptBook book = new PromptBook();
        due("book of " + text, take(book, text), THROWS_ILLEGAL);
        due("fault(0) of " + marked, book.fault(0), kind);
        due("fault(1) of " + marked, book.fault(1), place);
    }

    /** All that was SAID in the latest play, with blanks between. */
    static String said(PromptBook book) {
        StringBuilder all = new StringBuilder();
        for (int i = 0; i < book.about(5); i++) {
            if (i > 0) {
                all.append(' ');
            }
            all.append(saidOf(book, i));
        }
        return all.toString();
    }

    /** Plays SCENE 0 of the text with 1,000 FUEL: what it answers, the detail, and what was SAID. */
    PromptBook plays(String text, int answer, int detail, String said) {
        PromptBook book = sound(text);
        due("play of " + text, book.play(0, 0, 0, 1000), answer);
        due("about(1) of " + text, book.about(1), detail);
        due("SAID of " + text, said(book), said);
        return book;
    }

    /** Plays SCENE 0, which is upset, or cued, at the mark ^. */
    void upsets(String marked, int answer, int detail) {
        int place = marked.indexOf('^');
        String text = marked.substring(0, place) + marked.substring(place + 1);
        PromptBook book = sound(text);
        due("play of " + text, book.play(0, 0, 0, 1000), answer);
        due("about(1) of " + text, book.about(1), detail);
        due("about(2) of " + text, book.about(2), place);
    }

    void end() {
        String quoted = sentences == 0 ? "" : ", by " + sentences + " sentences";
        System.out.println(title + ": " + (done - wrong) + " of " + done + " answers as due" + quoted);
        if (wrong != 0) {
            System.exit(1);
        }
    }
}
