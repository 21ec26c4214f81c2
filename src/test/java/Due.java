/** What the tests share: it prints each answer that is not the one that is due, and counts them. */
final class Due {
    private static int wrong = 0;
    private static String sentence = "";

    private Due() {
    }

    /** Names the sentence of the document by which the answers from here on are due. */
    static void by(String words) {
        sentence = "[" + words + "] ";
    }

    static void is(String call, long got, long want) {
        if (got != want) {
            wrong++;
            System.out.println(sentence + call + " answered " + got + ", due is " + want);
        }
    }

    /** Puts a text's bytes behind the tape, eight at a time; answers what the last feed() did. */
    static int feed(PlateRound x, String text) {
        int answer = 0;
        for (int from = 0; from < text.length(); from += 8) {
            int n = Math.min(8, text.length() - from);
            answer = x.feed(n, packed(text, from, n));
        }
        return answer;
    }

    static long packed(String text, int from, int n) {
        long bytes = 0;
        for (int i = n - 1; i >= 0; i--) {
            bytes = bytes << 8 | text.charAt(from + i);
        }
        return bytes;
    }

    static int text(PlateRound x, String text) {
        feed(x, text);
        return x.text();
    }

    /** Makes a text THE RULE of an object that has none but text 0 yet. */
    static void rule(PlateRound x, String text) {
        is("text of " + text, text(x, text), 1);
        is("force(1)", x.force(1), 0);
    }

    static void end() {
        System.out.println(wrong == 0 ? "all answers are as due" : wrong + " answers are not as due");
        if (wrong != 0) {
            System.exit(1);
        }
    }
}
