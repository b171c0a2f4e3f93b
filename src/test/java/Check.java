/** Counts answers that are not the ones that are due, and ends a test. */
final class Check {
    private static String about = "";
    private static int asked = 0;
    private static int wrong = 0;

    private Check() {
    }

    /** Names what the following answers are about, for what is printed of a wrong one. */
    static void about(String what) {
        about = what.isEmpty() ? "" : what + " -- ";
    }

    static void due(String call, long got, long want) {
        asked++;
        if (got != want) {
            wrong++;
            System.out.println(about + call + " answered " + got + ", due is " + want);
        }
    }

    static void holds(String what, boolean holds) {
        due(what, holds ? 1 : 0, 1);
    }

    static int asked() {
        return asked;
    }

    static boolean allWell() {
        return wrong == 0;
    }

    static void end() {
        System.out.println(asked + " answers, " + wrong + " not as due");
        if (wrong != 0 || asked == 0) {
            System.exit(1);
        }
    }
}
