/** Counts the answers that are not due, and tells each with the sentence of the document that asks for it. */
final class Due {
    private static int wrong = 0;
    private static String sentence = "";

    private Due() {
    }

    /** What is asked from now on is due by these words of the document. */
    static void by(String words) {
        sentence = words;
    }

    static void is(String what, Object got, Object want) {
        if (!got.equals(want)) {
            wrong++;
            System.out.println("\"" + sentence + "\": " + what + " answered " + got + ", due is " + want);
        }
    }

    static void exit() {
        System.exit(wrong > 0 ? 1 : 0);
    }
}
