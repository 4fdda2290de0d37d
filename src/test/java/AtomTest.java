/** Promise 7: atom. */
public final class AtomTest {
    private static final String SEVEN = "7: atom";
    private static final int BAD = VirtualRewrite.BAD;
    private static final int FULL = VirtualRewrite.FULL;
    /** No codes (0 .. 59999) and no variables (-1 .. -6). */
    private static final int[] NO_PLACES = {
        Integer.MIN_VALUE, Integer.MIN_VALUE + 1, -10000, -8, -7, 60000, 60001, Integer.MAX_VALUE - 1, Integer.MAX_VALUE};

    public static void main(String[] args) {
        Sentences.run(AtomTest.class);
    }

    @Sentence(promise = SEVEN, says = "An atom more of the question: how many", edge = "one to four")
    private static void countsUpToFour() {
        VirtualRewrite x = new VirtualRewrite();
        for (int i = 1; i <= 4; i++) {
            Check.due("atom " + i, x.atom(i, -i, i), i);
        }
    }

    @Sentence(promise = SEVEN, says = "An atom more of the question: how many", edge = "one that is there already is one more")
    private static void atomsAlikeAreTwo() {
        VirtualRewrite x = new VirtualRewrite();
        x.atom(0, -1, -1);
        Check.due("atom alike", x.atom(0, -1, -1), 2);
    }

    @Sentence(promise = SEVEN, says = "BAD: no predicate, code, variable", edge = "the least and the greatest predicate are taken")
    private static void endsOfPredicates() {
        VirtualRewrite x = new VirtualRewrite();
        Check.due("atom(0, -1, -2)", x.atom(0, -1, -2), 1);
        Check.due("atom(7, -1, -2)", x.atom(7, -1, -2), 2);
    }

    @Sentence(promise = SEVEN, says = "BAD: no predicate, code, variable", edge = "the least and the greatest code are taken")
    private static void endsOfCodes() {
        VirtualRewrite x = new VirtualRewrite();
        x.row(0, 0, 9999, 0);
        x.mapping(0, 0, 0, 0, 5, 1);
        x.mapping(0, 1, 5, 1, 0, 0);
        Check.due("atom(0, 0, 59999)", x.atom(0, 0, 59999), 1);
        Check.due("atom(1, 59999, 0)", x.atom(1, 59999, 0), 2);
        Check.due("run()", x.run(), 1);
    }

    @Sentence(promise = SEVEN, says = "BAD: no predicate, code, variable", edge = "the least and the greatest variable are taken")
    private static void endsOfVariables() {
        VirtualRewrite x = Samples.oneAnswer();
        x.clear();
        Check.due("atom(0, -1, -6)", x.atom(0, -1, -6), 1);
        x.run();
        Check.due("value(0, 0)", x.value(0, 0), 10001);
        Check.due("value(0, 5)", x.value(0, 5), 20002);
        x.clear();
        Check.due("atom(0, -6, -1)", x.atom(0, -6, -1), 1);
        x.run();
        Check.due("value(0, 0) changed", x.value(0, 0), 20002);
        Check.due("value(0, 5) changed", x.value(0, 5), 10001);
    }

    @Sentence(promise = SEVEN, says = "a VARIABLE 0 .. 5 (told as -1 less it)", edge = "each one")
    private static void eachVariable() {
        for (int variable = 0; variable < 6; variable++) {
            VirtualRewrite x = Samples.oneAnswer();
            x.clear();
            Check.due("atom", x.atom(0, -1 - variable, 20002), 1);
            Check.due("run()", x.run(), 1);
            for (int v = 0; v < 6; v++) {
                if (v == variable) {
                    Check.due("value(0, " + v + ")", x.value(0, v), 10001);
                } else {
                    Check.dueThrow("value(0, " + v + ")", x, 0, v);
                }
            }
        }
    }

    @Sentence(promise = SEVEN, says = "BAD: no predicate", edge = "beyond both ends")
    private static void badPredicate() {
        VirtualRewrite x = new VirtualRewrite();
        for (int w : Samples.outside(8)) {
            Check.due("atom(" + w + ", 0, 0)", x.atom(w, 0, 0), BAD);
        }
    }

    @Sentence(promise = SEVEN, says = "BAD: no predicate, code, variable", edge = "no code or variable is the subject")
    private static void badSubject() {
        VirtualRewrite x = new VirtualRewrite();
        for (int w : NO_PLACES) {
            Check.due("atom(0, " + w + ", 0)", x.atom(0, w, 0), BAD);
        }
    }

    @Sentence(promise = SEVEN, says = "BAD: no predicate, code, variable", edge = "no code or variable is the object")
    private static void badObject() {
        VirtualRewrite x = new VirtualRewrite();
        for (int w : NO_PLACES) {
            Check.due("atom(0, 0, " + w + ")", x.atom(0, 0, w), BAD);
        }
    }

    @Sentence(promise = SEVEN, says = "BAD: no predicate, code, variable", edge = "it leaves the question as it was")
    private static void badAddsNothing() {
        VirtualRewrite x = Samples.oneAnswer();
        x.atom(8, -3, -4);
        x.atom(0, -7, -4);
        x.atom(0, -3, 60000);
        Check.due("unions()", x.unions(), 1);
        Check.due("union(0, 1)", x.union(0, 1), BAD);
        Check.due("run()", x.run(), 1);
        Check.dueThrow("value(0, 2)", x, 0, 2);
        Check.due("clear()", x.clear(), 1);
    }

    @Sentence(promise = SEVEN, says = "BAD: no predicate, code, variable", edge = "on a new object the question stays without atoms")
    private static void badFirstAtom() {
        VirtualRewrite x = new VirtualRewrite();
        x.atom(0, 0, -7);
        Check.due("unions()", x.unions(), BAD);
        Check.due("clear()", x.clear(), 0);
        Check.due("atom(0, 0, -6)", x.atom(0, 0, -6), 1);
    }

    @Sentence(promise = SEVEN, says = "FULL", edge = "the fifth, not the fourth")
    private static void fullAfterFour() {
        VirtualRewrite x = new VirtualRewrite();
        for (int i = 0; i < 3; i++) {
            x.atom(0, -1, -2);
        }
        Check.due("atom 4", x.atom(0, -1, -2), 4);
        Check.due("atom 5", x.atom(0, -1, -2), FULL);
        Check.due("atom 5 again", x.atom(7, 0, 59999), FULL);
    }

    @Sentence(promise = SEVEN, says = "FULL", edge = "it leaves the question as it was")
    private static void fullAddsNothing() {
        VirtualRewrite x = Samples.oneAnswer();
        for (int i = 0; i < 3; i++) {
            x.atom(0, -1, -2);
        }
        x.atom(5, -3, 7);
        Check.due("unions()", x.unions(), 1);
        Check.due("union(0, 3)", x.union(0, 3), 0);
        Check.due("run()", x.run(), 1);
        Check.dueThrow("value(0, 2)", x, 0, 2);
        Check.due("clear()", x.clear(), 4);
    }

    @Sentence(promise = SEVEN, says = "FULL", edge = "there is room again after clear()")
    private static void roomAfterClear() {
        VirtualRewrite x = new VirtualRewrite();
        for (int i = 0; i < 5; i++) {
            x.atom(0, -1, -2);
        }
        x.clear();
        for (int i = 1; i <= 4; i++) {
            Check.due("atom " + i, x.atom(0, -1, -2), i);
        }
        Check.due("atom 5", x.atom(0, -1, -2), FULL);
    }

    @Sentence(promise = SEVEN, says = "BAD: no predicate, code, variable; FULL", edge = "BAD where FULL would be due too")
    private static void badComesFirst() {
        VirtualRewrite x = new VirtualRewrite();
        for (int i = 0; i < 4; i++) {
            x.atom(0, -1, -2);
        }
        Check.due("atom(8, 0, 0)", x.atom(8, 0, 0), BAD);
        Check.due("atom(0, -7, 0)", x.atom(0, -7, 0), BAD);
        Check.due("atom(0, 0, 60000)", x.atom(0, 0, 60000), BAD);
    }

    @Sentence(promise = SEVEN, says = "An atom more of the question", edge = "the answers of the latest run() stay")
    private static void answersStay() {
        VirtualRewrite x = Samples.oneAnswer();
        x.run();
        x.atom(0, -3, -4);
        Check.due("value(0, 0)", x.value(0, 0), 10001);
        Check.dueThrow("value(0, 2)", x, 0, 2);
    }
}
