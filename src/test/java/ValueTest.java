/** Promise 14: value. */
public final class ValueTest {
    private static final String FOURTEEN = "14: value";
    private static final String THROWS = "IllegalStateException: there is such an answer, and the question that was run has not"
            + " that variable (0 .. 5) in an atom";
    private static final int BAD = VirtualRewrite.BAD;
    private static final int LARGE = VirtualRewrite.LARGE;

    public static void main(String[] args) {
        Sentences.run(ValueTest.class);
    }

    private static void noAnswers(VirtualRewrite x) {
        for (int variable = 0; variable < 6; variable++) {
            Check.due("value(0, " + variable + ")", x.value(0, variable), BAD);
        }
    }

    @Sentence(promise = FOURTEEN, says = "the code of a variable", edge = "the least and the greatest code")
    private static void leastAndGreatestCode() {
        VirtualRewrite x = new VirtualRewrite();
        x.row(0, 0, 9999, 0);
        x.mapping(0, 0, 0, 0, 5, 1);
        x.atom(0, -1, -6);
        x.run();
        Check.due("value(0, 0)", x.value(0, 0), 0);
        Check.due("value(0, 5)", x.value(0, 5), 59999);
    }

    @Sentence(promise = FOURTEEN, says = "the code of a variable", edge = "10000 times each template and the number")
    private static void codeOfEachTemplate() {
        VirtualRewrite x = new VirtualRewrite();
        x.row(0, 123, 0, 0);
        for (int template = 0; template < 6; template++) {
            x.mapping(0, 0, template, 0, 0, 1);
        }
        x.atom(0, -1, -2);
        x.run();
        for (int i = 0; i < 6; i++) {
            Check.due("value(" + i + ", 0)", x.value(i, 0), 10000 * i + 123);
        }
    }

    @Sentence(promise = FOURTEEN, says = "Of answer i", edge = "the first and the last of 300")
    private static void firstAndLastOf300() {
        VirtualRewrite x = Samples.answers301();
        x.drop(0, 18);
        x.run();
        int[] first = {0, 7, 0, 0};
        int[] last = {17, 8, 6, 8};
        for (int variable = 0; variable < 4; variable++) {
            Check.due("value(0, " + variable + ")", x.value(0, variable), first[variable]);
            Check.due("value(299, " + variable + ")", x.value(299, variable), last[variable]);
        }
    }

    @Sentence(promise = FOURTEEN, says = "BAD: none such", edge = "i beyond both ends")
    private static void badAnswer() {
        VirtualRewrite x = Samples.answers(3);
        x.run();
        for (int i : Samples.outside(3)) {
            Check.due("value(" + i + ", 0)", x.value(i, 0), BAD);
            Check.due("value(" + i + ", 5)", x.value(i, 5), BAD);
        }
        Check.due("value(2, 0)", x.value(2, 0), 10002);
    }

    @Sentence(promise = FOURTEEN, says = "BAD: none such", edge = "behind the last of 300")
    private static void badBehind300() {
        VirtualRewrite x = Samples.answers301();
        x.drop(0, 18);
        x.run();
        for (int i : Samples.outside(300)) {
            Check.due("value(" + i + ", 0)", x.value(i, 0), BAD);
            Check.due("value(" + i + ", 4)", x.value(i, 4), BAD);
        }
    }

    @Sentence(promise = FOURTEEN, says = "BAD: none such", edge = "a variable beyond both ends")
    private static void badVariable() {
        VirtualRewrite x = Samples.answers(3);
        x.run();
        for (int variable : Samples.outside(6)) {
            Check.due("value(0, " + variable + ")", x.value(0, variable), BAD);
            Check.due("value(3, " + variable + ")", x.value(3, variable), BAD);
            Check.due("value(-1, " + variable + ")", x.value(-1, variable), BAD);
        }
    }

    @Sentence(promise = FOURTEEN, says = "BAD: none such", edge = "before any run()")
    private static void badBeforeRun() {
        VirtualRewrite x = Samples.answers(3);
        x.unions();
        x.estimate(0);
        noAnswers(x);
    }

    @Sentence(promise = FOURTEEN, says = "BAD: none such", edge = "a run() that found nothing")
    private static void badOfNoAnswers() {
        VirtualRewrite x = Samples.answers(3);
        x.run();
        x.span(0, 5, 4);
        x.run();
        noAnswers(x);
    }

    @Sentence(promise = FOURTEEN, says = "of the latest run()", edge = "not of the one before it")
    private static void latestRun() {
        VirtualRewrite x = Samples.answers(3);
        x.run();
        x.clear();
        x.atom(0, -3, 20101);
        Check.due("run()", x.run(), 1);
        Check.due("value(0, 2)", x.value(0, 2), 10001);
        Check.due("value(1, 2)", x.value(1, 2), BAD);
        Check.dueThrow("value(0, 0)", x, 0, 0);
        Check.dueThrow("value(0, 1)", x, 0, 1);
    }

    @Sentence(promise = FOURTEEN, says = "of the latest run()", edge = "what changes after it does not change them")
    private static void changesAfterRun() {
        VirtualRewrite x = Samples.answers(3);
        x.run();
        x.atom(0, -3, -3);
        x.span(0, 9, 9);
        x.row(0, 4, 5, 6);
        x.drop(0, 0);
        x.mapping(0, 0, 1, 0, 1, 1);
        x.key(0, 0, true);
        x.unions();
        x.union(0, 8);
        x.estimate(0);
        x.triples();
        x.clear();
        for (int i = 0; i < 3; i++) {
            Check.due("value(" + i + ", 0)", x.value(i, 0), 10000 + i);
            Check.due("value(" + i + ", 1)", x.value(i, 1), 20100 + i);
        }
        Check.due("value(3, 0)", x.value(3, 0), BAD);
    }

    @Sentence(promise = FOURTEEN, says = "(none, if it was LARGE or BAD)", edge = "LARGE of answers, after a run() with some")
    private static void noneAfterLargeOfAnswers() {
        VirtualRewrite x = Samples.answers301();
        x.span(0, 0, 0);
        Check.due("run() with a span", x.run(), 48);
        x.clear();
        x.atom(0, -1, -2);
        x.atom(1, -3, -2);
        x.atom(2, -4, -2);
        Check.due("run()", x.run(), LARGE);
        noAnswers(x);
        Check.due("value(299, 0)", x.value(299, 0), BAD);
    }

    @Sentence(promise = FOURTEEN, says = "(none, if it was LARGE or BAD)", edge = "LARGE of unions, after a run() with some")
    private static void noneAfterLargeOfUnions() {
        VirtualRewrite x = Samples.unions150();
        Check.due("run() of 150", x.run(), 1);
        Check.due("value(0, 0) of 150", x.value(0, 0), 1);
        x.mapping(0, 2, 0, 0, 0, 1);
        Check.due("value(0, 0) before the next run()", x.value(0, 0), 1);
        Check.due("run() of more", x.run(), LARGE);
        noAnswers(x);
    }

    @Sentence(promise = FOURTEEN, says = "(none, if it was LARGE or BAD)", edge = "BAD, after a run() with some")
    private static void noneAfterBad() {
        VirtualRewrite x = Samples.answers(3);
        x.run();
        x.clear();
        Check.due("run()", x.run(), BAD);
        noAnswers(x);
    }

    @Sentence(promise = FOURTEEN, says = "(none, if it was LARGE or BAD)", edge = "some again by the next run()")
    private static void someAgain() {
        VirtualRewrite x = Samples.answers301();
        x.run();
        x.drop(0, 18);
        Check.due("run()", x.run(), 300);
        Check.due("value(0, 1)", x.value(0, 1), 7);
        Check.dueThrow("value(0, 4)", x, 0, 4);
    }

    @Sentence(promise = FOURTEEN, says = THROWS, edge = "each variable that no atom has, for each answer")
    private static void throwsForEachOtherVariable() {
        VirtualRewrite x = Samples.answers(20);
        x.run();
        for (int variable = 2; variable < 6; variable++) {
            Check.dueThrow("value(0, " + variable + ")", x, 0, variable);
            Check.dueThrow("value(19, " + variable + ")", x, 19, variable);
        }
    }

    @Sentence(promise = FOURTEEN, says = THROWS, edge = "the answer of a question without variables")
    private static void throwsWithoutVariables() {
        VirtualRewrite x = Samples.oneAnswer();
        x.clear();
        x.atom(0, 10001, 20002);
        Check.due("run()", x.run(), 1);
        for (int variable = 0; variable < 6; variable++) {
            Check.dueThrow("value(0, " + variable + ")", x, 0, variable);
        }
        Check.due("value(0, 6)", x.value(0, 6), BAD);
        Check.due("value(1, 0)", x.value(1, 0), BAD);
    }

    @Sentence(promise = FOURTEEN, says = THROWS, edge = "a span alone does not make a variable the question's")
    private static void throwsForVariableOfSpan() {
        VirtualRewrite x = Samples.answers(3);
        x.span(4, 0, 9);
        x.run();
        Check.dueThrow("value(0, 4)", x, 0, 4);
    }

    @Sentence(promise = FOURTEEN, says = THROWS, edge = "the question that was run, not the one that stands now")
    private static void throwsByTheQuestionThatWasRun() {
        VirtualRewrite x = Samples.answers(3);
        x.run();
        x.clear();
        x.atom(0, -4, -5);
        Check.dueThrow("value(0, 3)", x, 0, 3);
        Check.due("value(0, 0)", x.value(0, 0), 10000);
    }

    @Sentence(promise = FOURTEEN, says = THROWS, edge = "no throw where there is no such answer")
    private static void noThrowWithoutAnswer() {
        VirtualRewrite x = Samples.answers(3);
        x.run();
        Check.due("value(3, 2)", x.value(3, 2), BAD);
        Check.due("value(-1, 2)", x.value(-1, 2), BAD);
        Check.due("value(least, 5)", x.value(Integer.MIN_VALUE, 5), BAD);
        Check.due("value(greatest, 5)", x.value(Integer.MAX_VALUE, 5), BAD);
    }

    @Sentence(promise = FOURTEEN, says = THROWS, edge = "it leaves the answers as they were")
    private static void throwChangesNothing() {
        VirtualRewrite x = Samples.answers(3);
        x.run();
        for (int i = 0; i < 3; i++) {
            Check.dueThrow("value(" + i + ", 2)", x, i, 2);
        }
        Check.due("value(2, 0)", x.value(2, 0), 10002);
        Check.due("found(2, 0)", x.found(2, 0), 1);
        Check.due("run()", x.run(), 3);
        Check.due("clear()", x.clear(), 1);
    }
}
