/**
 * Counts the answers that are not as due, and feeds texts to a book. What is public here is so
 * for the examples of README.md, which ReadmeTest loads apart from the other classes.
 */
public final class Check {
    private static int checked = 0;
    private static int wrong = 0;

    private Check() {
    }

    public static void due(String call, int got, int want) {
        checked++;
        if (got != want) {
            wrong++;
            System.out.println(call + " answered " + got + ", due is " + want);
        }
    }

    public static void due(String call, boolean got, boolean want) {
        due(call, got ? 1 : 0, want ? 1 : 0);
    }

    /** Ends the test: exit code 1 if an answer was wrong, or none was looked at. */
    static void finish(String test) {
        System.out.println(test + ": " + checked + " answers, " + wrong + " wrong");
        if (wrong != 0 || checked == 0) {
            System.exit(1);
        }
    }

    /** Puts a text on the empty TAPE. */
    static void tape(StallBook book, String text) {
        for (int at = 0; at < text.length(); at += 20) {
            book.feed(word(text, at), word(text, at + 4), word(text, at + 8), word(text, at + 12), word(text, at + 16));
        }
        due("end(" + text.length() + ") for '" + text + "'", book.end(text.length()), text.length());
    }

    static int word(String text, int at) {
        int word = 0;
        for (int i = at; i < at + 4; i++) {
            word = word << 8 | (i < text.length() ? text.charAt(i) & 255 : 0);
        }
        return word;
    }

    static StallBook withCanons(int canons) {
        StallBook book = new StallBook();
        for (int canon = 0; canon < canons; canon++) {
            due("canon()", book.canon(), canon);
        }
        return book;
    }

    static void nights(StallBook book, int nights) {
        for (int i = 0; i < nights; i++) {
            book.night();
        }
    }

    /** Makes an ACT by the yes of CANON 0, which passes where he alone is there. */
    static void act(StallBook book, String text, int from, int number) {
        tape(book, text);
        due("open() of '" + text + "'", book.open(), 0);
        due("votes(0, true)", book.votes(0, true), true);
        due("close(" + from + ")", book.close(from), number);
    }
}
