/** Counts the answers that are not the ones that are due. */
final class Due {
    private static int asked = 0;
    private static int wrong = 0;
    private static String sentence = "";

    private Due() {
    }

    /** The sentence of the document that what is asked from here on belongs to. */
    static void of(String words) {
        sentence = words;
    }

    static void due(String call, long want, long got) {
        asked++;
        if (got != want) {
            wrong++;
            tell(call + " answered " + got + ", due is " + want);
        }
    }

    static void holds(String what, boolean truth) {
        asked++;
        if (!truth) {
            wrong++;
            tell("does not hold: " + what);
        }
    }

    private static void tell(String fault) {
        System.out.println(sentence.isEmpty() ? fault : sentence + ": " + fault);
    }

    /** Feeds a text to the tape, and cuts off what the last twelve bytes have too many. */
    static void feed(RegretLocks x, String text) {
        int had = x.count(7);
        for (int i = 0; i < text.length(); i += 12) {
            x.feed(four(text, i), four(text, i + 4), four(text, i + 8));
        }
        x.trim(had + text.length());
    }

    private static int four(String text, int from) {
        int four = 0;
        for (int i = from; i < from + 4; i++) {
            four = four << 8 | (i < text.length() ? text.charAt(i) & 255 : ' ');
        }
        return four;
    }

    /** Feeds a text and takes it from the tape. */
    static int text(RegretLocks x, String text) {
        feed(x, text);
        return x.text();
    }

    /** A text that is to be taken. */
    static void law(RegretLocks x, String text) {
        due("the text " + text, x.count(5), text(x, text));
    }

    static void end(String test) {
        System.out.println(test + ": " + asked + " asked, " + wrong + " wrong");
        if (wrong != 0) {
            System.exit(1);
        }
    }
}
