/** What a test found wrong; a test ends by end(), with 1 if there was anything. */
final class Check {
    private static int wrong = 0;
    private static String part = "";

    private Check() {
    }

    /** The sentence of the document that the answers from here on are about. */
    static void sentence(String words) {
        part = words;
    }

    static void due(String call, int got, int want) {
        if (got != want) {
            fail(call + " answered " + got + ", due is " + want);
        }
    }

    static void must(String what, boolean holds) {
        if (!holds) {
            fail(what);
        }
    }

    private static void fail(String what) {
        wrong++;
        if (wrong <= 40) {
            System.out.println("\"" + part + "\": " + what);
        }
    }

    static void end() {
        System.out.println(wrong == 0 ? "all answers are as due" : wrong + " are not as due");
        if (wrong != 0) {
            System.exit(1);
        }
    }
}
