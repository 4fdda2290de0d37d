/** Promise 8: span. */
public final class SpanTest {
    private static final String EIGHT = "8: span";
    private static final String NUMBER = "a variable's number is to be from one number to another one";
    private static final int BAD = VirtualRewrite.BAD;
    private static final int FULL = VirtualRewrite.FULL;
    private static final int LEAST = Integer.MIN_VALUE;
    private static final int GREATEST = Integer.MAX_VALUE;

    public static void main(String[] args) {
        Sentences.run(SpanTest.class);
    }

    /** How many of ten rows, with 0 .. 9 for variable 0, a span leaves. */
    private static int leaves(int from, int to) {
        VirtualRewrite x = Samples.answers(10);
        x.span(0, from, to);
        return x.run();
    }

    /** How many of the numbers 0 and 9999 a span leaves. */
    private static int leavesOfEnds(int from, int to) {
        VirtualRewrite x = new VirtualRewrite();
        x.row(0, 0, 0, 0);
        x.row(0, 9999, 0, 0);
        x.mapping(0, 0, 5, 0, 0, 1);
        x.atom(0, -1, -2);
        x.span(0, from, to);
        return x.run();
    }

    @Sentence(promise = EIGHT, says = "A span more: how many", edge = "one to four, of one variable")
    private static void countsOfOneVariable() {
        VirtualRewrite x = new VirtualRewrite();
        for (int i = 1; i <= 4; i++) {
            Check.due("span " + i, x.span(3, 1, 2), i);
        }
    }

    @Sentence(promise = EIGHT, says = "A span more: how many", edge = "one count for all variables")
    private static void countsOfAllVariables() {
        VirtualRewrite x = new VirtualRewrite();
        Check.due("span 1", x.span(0, 1, 2), 1);
        Check.due("span 2", x.span(5, 2, 1), 2);
        Check.due("span 3", x.span(4, LEAST, GREATEST), 3);
        Check.due("span 4", x.span(1, GREATEST, LEAST), 4);
    }

    @Sentence(promise = EIGHT, says = "A span more: how many", edge = "atoms are another count")
    private static void atomsAreAnotherCount() {
        VirtualRewrite x = new VirtualRewrite();
        for (int i = 0; i < 4; i++) {
            x.atom(0, -1, -2);
        }
        Check.due("span 1", x.span(0, 1, 2), 1);
    }

    @Sentence(promise = EIGHT, says = NUMBER, edge = "both ends belong to it")
    private static void endsBelongToIt() {
        Check.due("2 to 7", leaves(2, 7), 6);
        Check.due("3 to 3", leaves(3, 3), 1);
        Check.due("0 to 9", leaves(0, 9), 10);
        Check.due("9 to 9", leaves(9, 9), 1);
        Check.due("10 to 10", leaves(10, 10), 0);
    }

    @Sentence(promise = EIGHT, says = NUMBER, edge = "the least and the greatest number")
    private static void endsOfNumbers() {
        Check.due("0 to 9999", leavesOfEnds(0, 9999), 2);
        Check.due("0 to 9998", leavesOfEnds(0, 9998), 1);
        Check.due("1 to 9999", leavesOfEnds(1, 9999), 1);
        Check.due("1 to 9998", leavesOfEnds(1, 9998), 0);
        Check.due("0 to 0", leavesOfEnds(0, 0), 1);
        Check.due("9999 to 9999", leavesOfEnds(9999, 9999), 1);
    }

    @Sentence(promise = EIGHT, says = NUMBER, edge = "nothing is from a greater one to a lesser one")
    private static void fromAboveTo() {
        Check.due("5 to 4", leaves(5, 4), 0);
        Check.due("9999 to 0", leavesOfEnds(9999, 0), 0);
        Check.due("the greatest to the least", leavesOfEnds(GREATEST, LEAST), 0);
    }

    @Sentence(promise = EIGHT, says = NUMBER, edge = "ends beyond all numbers")
    private static void endsBeyondNumbers() {
        Check.due("all ints", leavesOfEnds(LEAST, GREATEST), 2);
        Check.due("from the least", leavesOfEnds(LEAST, 0), 1);
        Check.due("to the greatest", leavesOfEnds(9999, GREATEST), 1);
        Check.due("-1 to 10000", leavesOfEnds(-1, 10000), 2);
        Check.due("below all numbers", leavesOfEnds(LEAST, -1), 0);
        Check.due("above all numbers", leavesOfEnds(10000, GREATEST), 0);
        Check.due("codes are no numbers", leavesOfEnds(50000, 59999), 0);
    }

    @Sentence(promise = EIGHT, says = NUMBER, edge = "its number, whatever its template")
    private static void numberOfEachTemplate() {
        VirtualRewrite x = new VirtualRewrite();
        x.row(0, 5, 0, 0);
        for (int template = 0; template < 6; template++) {
            x.mapping(0, 0, template, 0, 0, 1);
        }
        x.atom(0, -1, -2);
        x.span(0, 5, 5);
        Check.due("run()", x.run(), 6);
        Check.due("value(5, 0)", x.value(5, 0), 50005);
    }

    @Sentence(promise = EIGHT, says = "A span more", edge = "all spans of a variable hold")
    private static void allSpansHold() {
        VirtualRewrite x = Samples.answers(10);
        x.span(0, 2, 7);
        x.span(0, 5, 9);
        Check.due("2 to 7 and 5 to 9", x.run(), 3);
        x.span(0, 0, 9999);
        Check.due("a wider one takes nothing back", x.run(), 3);
        x.span(0, 8, 9);
        Check.due("one apart from them", x.run(), 0);
    }

    @Sentence(promise = EIGHT, says = "at most 4 SPANS", edge = "the fourth holds too")
    private static void fourthHolds() {
        VirtualRewrite x = Samples.answers(10);
        x.span(0, 0, 9999);
        x.span(1, 0, 9999);
        x.span(0, 1, 9999);
        x.span(1, 0, 104);
        Check.due("run()", x.run(), 4);
        Check.due("value(0, 0)", x.value(0, 0), 10001);
        Check.due("value(3, 1)", x.value(3, 1), 20104);
    }

    @Sentence(promise = EIGHT, says = NUMBER, edge = "subject and object, each at both")
    private static void subjectAndObject() {
        VirtualRewrite x = new VirtualRewrite();
        x.row(0, 4, 4, 0);
        x.row(0, 5, 5, 0);
        x.row(0, 5, 4, 0);
        x.mapping(0, 0, 0, 0, 0, 1);
        x.atom(0, -1, -2);
        x.span(1, 4, 4);
        Check.due("the object's", x.run(), 2);
        x.clear();
        x.atom(0, -4, -4);
        x.span(3, 5, 5);
        Check.due("of both", x.run(), 1);
        Check.due("value(0, 3)", x.value(0, 3), 5);
    }

    @Sentence(promise = EIGHT, says = "(of a variable that no atom has nothing is asked)", edge = "a span of nothing")
    private static void variableThatNoAtomHas() {
        VirtualRewrite x = Samples.answers(10);
        Check.due("span(2, 9, 0)", x.span(2, 9, 0), 1);
        Check.due("span(5, -5, -1)", x.span(5, -5, -1), 2);
        Check.due("run()", x.run(), 10);
        Check.dueThrow("value(0, 2)", x, 0, 2);
    }

    @Sentence(promise = EIGHT, says = "(of a variable that no atom has nothing is asked)", edge = "until an atom has it")
    private static void atomThatComesLater() {
        VirtualRewrite x = Samples.answers(10);
        x.clear();
        x.span(2, 3, 4);
        x.atom(0, -1, -2);
        Check.due("run() without it", x.run(), 10);
        x.atom(0, -3, -2);
        Check.due("run() with it", x.run(), 2);
        Check.due("value(1, 2)", x.value(1, 2), 10004);
    }

    @Sentence(promise = EIGHT, says = "A span more", edge = "unions and estimates do not hang on it")
    private static void unionsStay() {
        VirtualRewrite x = Samples.answers(10);
        x.span(0, 5, 4);
        Check.due("unions()", x.unions(), 1);
        Check.due("union(0, 8)", x.union(0, 8), 1);
        Check.due("estimate(0)", x.estimate(0), 10);
    }

    @Sentence(promise = EIGHT, says = "A span more", edge = "the answers of the latest run() stay")
    private static void answersStay() {
        VirtualRewrite x = Samples.answers(10);
        x.run();
        x.span(0, 5, 4);
        Check.due("value(9, 0)", x.value(9, 0), 10009);
        Check.due("found(9, 0)", x.found(9, 0), 1);
    }

    @Sentence(promise = EIGHT, says = "BAD: no variable", edge = "beyond both ends")
    private static void badVariable() {
        VirtualRewrite x = new VirtualRewrite();
        for (int w : Samples.outside(6)) {
            Check.due("span(" + w + ", 0, 9)", x.span(w, 0, 9), BAD);
        }
        Check.due("span(5, 0, 9)", x.span(5, 0, 9), 1);
        Check.due("span(0, 0, 9)", x.span(0, 0, 9), 2);
    }

    @Sentence(promise = EIGHT, says = "BAD: no variable", edge = "a variable is not told here as in an atom")
    private static void badAsToldInAtom() {
        VirtualRewrite x = Samples.answers(10);
        for (int told = -6; told < 0; told++) {
            Check.due("span(" + told + ", 0, 0)", x.span(told, 0, 0), BAD);
        }
        Check.due("run()", x.run(), 10);
    }

    @Sentence(promise = EIGHT, says = "BAD: no variable", edge = "it leaves the question as it was")
    private static void badAddsNothing() {
        VirtualRewrite x = Samples.answers(10);
        for (int w : Samples.outside(6)) {
            x.span(w, 5, 5);
        }
        Check.due("run()", x.run(), 10);
        Check.due("the next one", x.span(0, 0, 9), 1);
    }

    @Sentence(promise = EIGHT, says = "FULL", edge = "the fifth, not the fourth")
    private static void fullAfterFour() {
        VirtualRewrite x = new VirtualRewrite();
        for (int i = 0; i < 3; i++) {
            x.span(i, 0, 9);
        }
        Check.due("span 4", x.span(0, 0, 9), 4);
        Check.due("span 5", x.span(0, 0, 9), FULL);
        Check.due("span 5 of another variable", x.span(5, 0, 9), FULL);
    }

    @Sentence(promise = EIGHT, says = "FULL", edge = "it leaves the question as it was")
    private static void fullAddsNothing() {
        VirtualRewrite x = Samples.answers(10);
        for (int i = 0; i < 4; i++) {
            x.span(0, 0, 9999);
        }
        x.span(0, 5, 5);
        x.span(1, 105, 105);
        Check.due("run()", x.run(), 10);
        Check.due("unions()", x.unions(), 1);
    }

    @Sentence(promise = EIGHT, says = "FULL", edge = "there is room again after clear()")
    private static void roomAfterClear() {
        VirtualRewrite x = new VirtualRewrite();
        for (int i = 0; i < 5; i++) {
            x.span(0, 0, 9);
        }
        x.clear();
        for (int i = 1; i <= 4; i++) {
            Check.due("span " + i, x.span(0, 0, 9), i);
        }
        Check.due("span 5", x.span(0, 0, 9), FULL);
    }

    @Sentence(promise = EIGHT, says = "BAD: no variable; FULL", edge = "BAD where FULL would be due too")
    private static void badComesFirst() {
        VirtualRewrite x = new VirtualRewrite();
        for (int i = 0; i < 4; i++) {
            x.span(0, 0, 9);
        }
        Check.due("span(6, 0, 9)", x.span(6, 0, 9), BAD);
        Check.due("span(-1, 0, 9)", x.span(-1, 0, 9), BAD);
    }
}
