/** Counts answers by the sentence of the document that they belong to, and prints those that are not as due. */
final class Due {
    private static String sentence = "";
    private static int sentences = 0;
    private static int inSentence = 0;
    private static int asked = 0;
    private static int wrong = 0;

    private Due() {
    }

    /** All that is looked at from here on tests this sentence. */
    static void sentence(String words) {
        closeSentence();
        sentence = words;
        sentences++;
    }

    static void is(String call, int got, int want) {
        holds(call + " answered " + got + ", due is " + want, got == want);
    }

    static void holds(String what, boolean holds) {
        asked++;
        inSentence++;
        if (!holds) {
            wrong++;
            System.out.println("\"" + sentence + "\": " + what);
        }
    }

    /** Ends the program, with exit code 1 if an answer was wrong or a sentence had no test. */
    static void end() {
        closeSentence();
        System.out.println(sentences + " sentences, " + asked + " answers looked at, " + wrong + " not as due");
        if (wrong != 0) {
            System.exit(1);
        }
    }

    private static void closeSentence() {
        if (sentences > 0 && inSentence == 0) {
            wrong++;
            System.out.println("\"" + sentence + "\" has no test");
        }
        inSentence = 0;
    }
}
