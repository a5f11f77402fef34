/** Counts the answers that are not as due; a test's main ends with end(). */
final class Check {
    private static int asked = 0;
    private static int wrong = 0;

    private Check() {
    }

    static void due(String call, long got, long want) {
        asked++;
        if (got != want) {
            wrong++;
            System.out.println(where() + call + " answered " + got + ", due is " + want);
        }
    }

    /** The test's function that asks, which names its promise. */
    private static String where() {
        return StackWalker.getInstance().walk(frames -> frames.map(StackWalker.StackFrame::getMethodName)
            .filter(name -> name.startsWith("promise")).findFirst().map(name -> name + ": ").orElse(""));
    }

    static void holds(String what, boolean so) {
        due(what, so ? 1 : 0, 1);
    }

    static void end(String test) {
        System.out.println(test + ": " + asked + " answers, " + wrong + " not as due");
        if (wrong != 0 || asked == 0) {
            System.exit(1);
        }
    }
}
