/** Counts answers that are not as due, and tells texts to a RopeMind by its tape. */
final class Check {
    private static int asked = 0;
    private static int wrong = 0;
    private static boolean quiet = false;
    private static String part = "";

    private Check() { }

    static void part(String name) {
        part = name;
    }

    static void due(String call, long got, long want) {
        asked++;
        if (got != want) {
            wrong++;
        }
        if (got != want && !quiet) {
            System.out.println(part + ": " + call + " answered " + got + ", due is " + want);
        }
    }

    static void due(String call, boolean got, boolean want) {
        due(call, got ? 1L : 0L, want ? 1L : 0L);
    }

    static int wrong() {
        return wrong;
    }

    /** How many wrong answers something gives; they are neither told nor counted. */
    static int quietly(Runnable something) {
        int askedBefore = asked;
        int wrongBefore = wrong;
        quiet = true;
        something.run();
        quiet = false;
        int found = wrong - wrongBefore;
        asked = askedBefore;
        wrong = wrongBefore;
        return found;
    }

    /** The five numbers of the feed call that brings bytes from a place on, blanks behind the end. */
    static int[] numbers(String text, int from) {
        int[] v = new int[5];
        for (int i = 0; i < 20; i++) {
            int c = from + i < text.length() ? text.charAt(from + i) & 255 : 32;
            v[i / 4] = v[i / 4] << 8 | c;
        }
        return v;
    }

    static void tape(RopeMind x, String text) {
        x.end(0);
        for (int i = 0; i < text.length(); i += 20) {
            int[] v = numbers(text, i);
            x.feed(v[0], v[1], v[2], v[3], v[4]);
        }
        x.end(text.length());
    }

    static int tell(RopeMind x, int k, String text) {
        tape(x, text);
        return x.text(k);
    }

    /** Ends the program: with 1 if an answer was wrong. */
    static void end() {
        System.out.println(wrong == 0 ? asked + " answers are as due" : wrong + " of " + asked + " answers are not as due");
        System.exit(wrong == 0 ? 0 : 1);
    }
}
