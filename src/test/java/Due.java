/** Counts the answers that are not the ones that are due, for a test's main method. */
final class Due {
    static final int BEYOND = -1000000001;
    static final int NONE = -1000000002;
    static final int STATE = -1000000003;
    static final int FULL = -1000000004;
    static final int KIND = -1000000005;

    private static int asked = 0;
    private static int wrong = 0;
    private static String where = "";

    private Due() {
    }

    static void of(String part) {
        where = part;
    }

    static void due(long want, long got) {
        due("", want, got);
    }

    static void due(String call, long want, long got) {
        asked++;
        if (want != got) {
            wrong++;
            int line = 0;
            for (StackTraceElement e : new Throwable().getStackTrace()) {
                if (!e.getMethodName().equals("due")) {
                    line = e.getLineNumber();
                    break;
                }
            }
            System.out.println(where + " (line " + line + ") " + call + ": answered " + got + ", due is " + want);
        }
    }

    static boolean allRight() {
        return wrong == 0;
    }

    static void end() {
        System.out.println(asked + " answers asked, " + wrong + " wrong");
        if (wrong != 0 || asked == 0) {
            System.exit(1);
        }
    }
}
