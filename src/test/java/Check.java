/** Counts and prints the answers that are not the ones that are due. */
final class Check {
    private static int checked = 0;
    private static int wrong = 0;
    private static String sentence = "";

    private Check() {
    }

    /** What is printed before each wrong answer from now on. */
    static void about(String of) {
        sentence = of;
    }

    static void due(String call, long got, long want) {
        checked++;
        if (got != want) {
            fault(call + " answered " + got + ", due is " + want);
        }
    }

    static void dueThrow(String call, VirtualRewrite x, int i, int variable) {
        checked++;
        try {
            int got = x.value(i, variable);
            fault(call + " answered " + got + ", due is an IllegalStateException");
        } catch (IllegalStateException e) {
            // This is what is due.
        }
    }

    static void fault(String text) {
        wrong++;
        System.out.println(sentence + text);
    }

    static int checked() {
        return checked;
    }

    static boolean isWrong() {
        return wrong > 0;
    }

    static void end() {
        System.out.println(checked + " answers looked at, " + wrong + " not as due");
        if (wrong > 0) {
            System.exit(1);
        }
    }
}
