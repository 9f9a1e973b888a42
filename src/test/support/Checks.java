/** What the tests share: a book, texts that are fed to it, answers compared with those that are due. */
abstract class Checks {
    static final int NONE = DreamBook.NONE;
    static final int MAX = Integer.MAX_VALUE;
    static final int MIN = Integer.MIN_VALUE;
    static final int MOST_BOOK = 900;
    static final int MOST_NIGHTS = 300;

    static DreamBook x;
    /** What is looked at: a promise's number or some words of the document. */
    static String about = "";
    private static int wrong = 0;

    static void finish(String holds) {
        System.out.println(wrong == 0 ? holds : wrong + " answers are not as due");
        if (wrong != 0) {
            System.exit(1);
        }
    }

    // -------- answers

    static void due(String what, long got, long want) {
        if (got != want) {
            wrong++;
            System.out.println(about + ": " + what + " answered " + got + ", due is " + want);
        }
    }

    /** The call answered so with STATUS 0. */
    static void good(String what, long got, long want) {
        due(what, got, want);
        due("status of " + what, x.status(), 0);
    }

    static void good(String what, boolean got) {
        good(what, got ? 1 : 0, 1);
    }

    /** The call answered NONE with such a STATUS. */
    static void bad(String what, long got, int status) {
        due(what, got, NONE);
        due("status of " + what, x.status(), status);
    }

    static void bad(String what, boolean got, int status) {
        due(what, got ? 1 : 0, 0);
        due("status of " + what, x.status(), status);
    }

    static void fraction(long top, long bottom) {
        due("top", x.top(), top);
        due("bottom", x.bottom(), bottom);
    }

    /** What was found is this row. */
    static void row(String what, int... things) {
        for (int k = 0; k < things.length; k++) {
            good(what + " foundAt " + k, x.foundAt(k), things[k]);
        }
        bad(what + " foundAt behind", x.foundAt(things.length), 8);
    }

    // -------- texts

    static void feed(String text) {
        feed(x, text);
    }

    /** The text comes on the tape, with blanks behind it up to whole twenties. */
    static void feed(DreamBook to, String text) {
        for (int i = 0; i < text.length(); i += 20) {
            int[] v = new int[5];
            for (int j = 0; j < 20; j++) {
                int c = i + j < text.length() ? text.charAt(i + j) & 255 : ' ';
                v[j / 4] = v[j / 4] << 8 | c;
            }
            to.feed(v[0], v[1], v[2], v[3], v[4]);
        }
    }

    static int book(String text) {
        feed(text);
        return x.book(text.length());
    }

    static int nights(String text) {
        feed(text);
        return x.nights(text.length());
    }

    /** A new object with this book. */
    static void fresh(String text) {
        x = new DreamBook();
        if (book(text) == NONE) {
            due("book " + text + ", fault " + x.fault(0) + " at " + x.fault(1), 0, 1);
        }
    }

    /** The book has such a fault where the mark ^ stands. */
    static void faulty(String marked, int kind) {
        String text = marked.replace("^", "");
        feed(text);
        bad("book " + marked, x.book(text.length()), 10);
        fault(marked, kind, marked.indexOf('^'));
    }

    static void faultyNights(String marked, int kind) {
        String text = marked.replace("^", "");
        feed(text);
        bad("nights " + marked, x.nights(text.length()), 10);
        fault(marked, kind, marked.indexOf('^'));
    }

    static void fault(String what, int kind, int place) {
        due("fault of " + what, x.fault(0), kind);
        due("place of " + what, x.fault(1), place);
    }

    /** The text so often; # in it becomes a, b, c .. */
    static String times(int n, String text) {
        StringBuilder all = new StringBuilder();
        for (int i = 0; i < n; i++) {
            all.append(text.replace("#", String.valueOf((char) ('a' + i))));
        }
        return all.toString();
    }

    /** The text with blanks ahead of its last part, so that it is so long. */
    static String stretched(String ahead, String last, int length) {
        return ahead + " ".repeat(length - ahead.length() - last.length()) + last;
    }
}
