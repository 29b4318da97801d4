/** Compares answers with those that are due, and ends a test with exit code 1 if one was not. */
final class Due {
    private static int looked = 0;
    private static int wrong = 0;
    private static String sentence = "";
    private static int lookedBefore = 0;

    private Due() {
    }

    /** The answers from here on are looked at for this sentence of the document. */
    static void sentence(String words) {
        endSentence();
        sentence = words;
    }

    static void is(String call, long got, long want) {
        looked++;
        if (got != want) {
            wrong(call + " answered " + got + ", due is " + want);
        }
    }

    static void is(String call, boolean got, boolean want) {
        is(call, got ? 1 : 0, want ? 1 : 0);
    }

    /** For a call on x that has just been made and answered got: 0 and this FAULT are due. */
    static void fault(String call, HandLoom x, int got, int fault) {
        is(call, got, 0);
        is(call + " told", x.told(0), fault);
    }

    /** For a call on x that has just been made and answered got: want and no FAULT are due. */
    static void fine(String call, HandLoom x, int got, int want) {
        is(call, got, want);
        is(call + " told", x.told(0), 0);
    }

    static void end() {
        endSentence();
        System.out.println(looked + " answers looked at, " + wrong + " not as due");
        if (wrong != 0 || looked == 0) {
            System.exit(1);
        }
    }

    /** A sentence whose test looks at nothing would hold whatever the program does. */
    private static void endSentence() {
        if (!sentence.isEmpty() && looked == lookedBefore) {
            wrong("no answer was looked at");
        }
        lookedBefore = looked;
    }

    private static void wrong(String what) {
        wrong++;
        System.out.println((sentence.isEmpty() ? "" : "\"" + sentence + "\": ") + what);
    }
}
