/** Counts and prints what is not as due; every test closes with it. */
final class Check {
    private static int passed = 0;
    private static int failed = 0;
    private static String about = "";

    private Check() {
    }

    /** The words of the document that the answers from now on are about. */
    static void about(String words) {
        about = words.isEmpty() ? "" : " [" + words + "]";
    }

    static void due(String call, long got, long want) {
        if (got == want) {
            passed++;
        } else {
            failed++;
            System.out.println(call + " answered " + got + ", due is " + want + about);
        }
    }

    static void holds(String what, boolean is) {
        due(what, is ? 1 : 0, 1);
    }

    static void lies(String when, TeaRace x, int ship, int cell, int gone) {
        due(when + ": cell of " + ship, x.told(ship, 1), cell);
        due(when + ": gone of " + ship, x.told(ship, 2), gone);
    }

    static int seen() {
        return passed + failed;
    }

    static void close(String test) {
        System.out.println(test + ": " + passed + " as due, " + failed + " not");
        if (failed > 0 || passed == 0) {
            System.exit(1);
        }
    }
}
