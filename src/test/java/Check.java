/** Counts and prints the answers that are not the ones that are due. */
final class Check {
    private static int checked = 0;
    private static int wrong = 0;

    private Check() {
    }

    static void due(String call, long got, long want) {
        checked++;
        if (got != want) {
            wrong++;
            System.out.println(call + " answered " + got + ", due is " + want);
        }
    }

    static void dueThrow(String call, VirtualRewrite x, int i, int variable) {
        checked++;
        try {
            int got = x.value(i, variable);
            wrong++;
            System.out.println(call + " answered " + got + ", due is an IllegalStateException");
        } catch (IllegalStateException e) {
            // This is what is due.
        }
    }

    static boolean isWrong() {
        return wrong > 0;
    }

    static void end() {
        System.out.println(checked + " answers looked at, " + wrong + " not as due");
        if (wrong > 0) {
            System.exit(1);
        }
    }
}
