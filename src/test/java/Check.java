/** Counts and prints the answers that are not as due; each test ends with finish(). */
final class Check {
    private static int asked = 0;
    private static int wrong = 0;

    private Check() {
    }

    static void due(String call, long got, long want) {
        asked++;
        if (got != want) {
            wrong++;
            System.out.println(call + " answered " + got + ", due is " + want);
        }
    }

    static void holds(String claim, boolean does) {
        due(claim, does ? 1 : 0, 1);
    }

    static void finish(String test) {
        System.out.println(test + ": " + asked + " answers, " + wrong + " not as due");
        if (wrong != 0 || asked == 0) {
            System.exit(1);
        }
    }

    /** Feeds a text, eight bytes at a time; the answer of the last feed (0: it was empty). */
    static int feedText(DrumBoats x, String text) {
        int answer = 0;
        for (int from = 0; from < text.length(); from += 8) {
            int n = Math.min(8, text.length() - from);
            long w = 0;
            for (int i = 0; i < n; i++) {
                w = w << 8 | text.charAt(from + i) & 255;
            }
            answer = x.feed(w, n);
        }
        return answer;
    }

    static int ruleOf(DrumBoats x, String text) {
        feedText(x, text);
        return x.rule();
    }
}
