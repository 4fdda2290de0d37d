/** Promise 15: found. */
public final class FoundTest {
    private static final String FIFTEEN = "15: found";
    private static final String COUNT = "How many unions found answer i (what = 0)";
    private static final String FIRST = "the first that did (1)";
    private static final int BAD = VirtualRewrite.BAD;
    private static final int LARGE = VirtualRewrite.LARGE;

    public static void main(String[] args) {
        Sentences.run(FoundTest.class);
    }

    private static void noAnswers(VirtualRewrite x) {
        Check.due("found(0, 0)", x.found(0, 0), BAD);
        Check.due("found(0, 1)", x.found(0, 1), BAD);
    }

    /** Unions 0, 1 and 3 find (1, 2), 1 finds (8, 9) too, and 2 finds both with another template. */
    private static VirtualRewrite fourUnions() {
        VirtualRewrite x = new VirtualRewrite();
        x.row(0, 1, 2, 3);
        x.row(0, 1, 2, 4);
        x.row(1, 1, 2, 3);
        x.row(1, 8, 9, 3);
        x.mapping(0, 0, 0, 0, 0, 1);
        x.mapping(1, 0, 0, 0, 0, 1);
        x.mapping(1, 0, 1, 0, 0, 1);
        x.mapping(0, 0, 0, 0, 0, 1);
        x.atom(0, -1, -2);
        return x;
    }

    @Sentence(promise = FIFTEEN, says = COUNT, edge = "one and several unions")
    private static void countsUnions() {
        VirtualRewrite x = fourUnions();
        Check.due("run()", x.run(), 4);
        int[] due = {3, 1, 1, 1};
        for (int i = 0; i < 4; i++) {
            Check.due("found(" + i + ", 0)", x.found(i, 0), due[i]);
        }
    }

    @Sentence(promise = FIFTEEN, says = COUNT, edge = "all of 150")
    private static void counts150() {
        VirtualRewrite x = Samples.unions150();
        x.run();
        Check.due("found(0, 0)", x.found(0, 0), 150);
    }

    @Sentence(promise = FIFTEEN, says = COUNT, edge = "a union that finds it by many rows counts once")
    private static void unionCountsOnce() {
        VirtualRewrite x = new VirtualRewrite();
        for (int i = 0; i < 20; i++) {
            x.row(0, 1, 2, i);
        }
        x.mapping(0, 0, 0, 0, 0, 1);
        x.mapping(0, 1, 0, 0, 0, 2);
        x.atom(0, -1, -2);
        Check.due("run() of one atom", x.run(), 1);
        Check.due("found(0, 0) of one atom", x.found(0, 0), 1);
        x.atom(0, -1, -3);
        x.atom(0, 1, -3);
        Check.due("run() of three atoms", x.run(), 1);
        Check.due("found(0, 0) of three atoms", x.found(0, 0), 1);
    }

    @Sentence(promise = FIFTEEN, says = COUNT, edge = "the answer without terms too")
    private static void countsOfQuestionWithoutVariables() {
        VirtualRewrite x = fourUnions();
        x.clear();
        x.atom(0, 1, 2);
        Check.due("run()", x.run(), 1);
        Check.due("found(0, 0)", x.found(0, 0), 3);
        Check.due("found(0, 1)", x.found(0, 1), 0);
    }

    @Sentence(promise = FIFTEEN, says = FIRST, edge = "the first, one between and the last union")
    private static void firstOfUnions() {
        VirtualRewrite x = fourUnions();
        x.mapping(0, 0, 5, 2, 5, 2);
        x.run();
        int[] due = {0, 1, 2, 2, 4, 4};
        for (int i = 0; i < 6; i++) {
            Check.due("found(" + i + ", 1)", x.found(i, 1), due[i]);
        }
    }

    @Sentence(promise = FIFTEEN, says = FIRST, edge = "dropped unions have no number")
    private static void firstOfThoseNotDropped() {
        VirtualRewrite x = fourUnions();
        x.clear();
        x.atom(0, 10001, -1);
        Check.due("run()", x.run(), 1);
        Check.due("found(0, 1)", x.found(0, 1), 0);
    }

    @Sentence(promise = FIFTEEN, says = FIRST, edge = "the last of 150 alone")
    private static void lastOf150() {
        VirtualRewrite x = new VirtualRewrite();
        int[] each = {5, 3, 2};
        for (int predicate = 0; predicate < 3; predicate++) {
            for (int i = 1; i <= each[predicate]; i++) {
                x.mapping(i == each[predicate] ? 1 : 0, predicate, 0, 0, 0, 1);
            }
        }
        x.row(1, 1, 2, 3);
        x.atom(0, -1, -2);
        x.atom(0, -1, -2);
        x.atom(1, -1, -2);
        x.atom(2, -1, -2);
        Check.due("unions()", x.unions(), 150);
        Check.due("run()", x.run(), 1);
        Check.due("found(0, 1)", x.found(0, 1), 149);
        Check.due("found(0, 0)", x.found(0, 0), 1);
    }

    @Sentence(promise = FIFTEEN, says = COUNT, edge = "the first and the last of 300 answers")
    private static void firstAndLastOf300() {
        VirtualRewrite x = Samples.answers301();
        x.drop(0, 18);
        x.mapping(0, 0, 0, 0, 0, 1);
        Check.due("run()", x.run(), 300);
        Check.due("found(0, 0)", x.found(0, 0), 2);
        Check.due("found(299, 0)", x.found(299, 0), 2);
        Check.due("found(299, 1)", x.found(299, 1), 0);
    }

    @Sentence(promise = FIFTEEN, says = "BAD", edge = "i beyond both ends")
    private static void badAnswer() {
        VirtualRewrite x = Samples.answers(3);
        x.run();
        for (int i : Samples.outside(3)) {
            Check.due("found(" + i + ", 0)", x.found(i, 0), BAD);
            Check.due("found(" + i + ", 1)", x.found(i, 1), BAD);
        }
        Check.due("found(2, 0)", x.found(2, 0), 1);
    }

    @Sentence(promise = FIFTEEN, says = "BAD", edge = "behind the last of 300")
    private static void badBehind300() {
        VirtualRewrite x = Samples.answers301();
        x.drop(0, 18);
        x.run();
        for (int i : Samples.outside(300)) {
            Check.due("found(" + i + ", 0)", x.found(i, 0), BAD);
            Check.due("found(" + i + ", 1)", x.found(i, 1), BAD);
        }
    }

    @Sentence(promise = FIFTEEN, says = "BAD", edge = "what beyond both ends")
    private static void badWhat() {
        VirtualRewrite x = Samples.answers(3);
        x.run();
        for (int what : Samples.outside(2)) {
            Check.due("found(0, " + what + ")", x.found(0, what), BAD);
            Check.due("found(3, " + what + ")", x.found(3, what), BAD);
        }
        Check.due("found(0, 1)", x.found(0, 1), 0);
    }

    @Sentence(promise = FIFTEEN, says = "BAD", edge = "before any run()")
    private static void badBeforeRun() {
        noAnswers(Samples.answers(3));
    }

    @Sentence(promise = FIFTEEN, says = "BAD", edge = "a run() that found nothing")
    private static void badOfNoAnswers() {
        VirtualRewrite x = Samples.answers(3);
        x.run();
        x.span(0, 5, 4);
        Check.due("run()", x.run(), 0);
        noAnswers(x);
    }

    @Sentence(promise = FIFTEEN, says = "BAD", edge = "a run() that was LARGE, of answers or of unions")
    private static void badAfterLarge() {
        VirtualRewrite x = Samples.answers301();
        Check.due("run() of 301 answers", x.run(), LARGE);
        noAnswers(x);
        Check.due("found(299, 0)", x.found(299, 0), BAD);
        VirtualRewrite y = Samples.unions150();
        y.run();
        y.mapping(0, 2, 0, 0, 0, 1);
        Check.due("run() of more than 150 unions", y.run(), LARGE);
        noAnswers(y);
    }

    @Sentence(promise = FIFTEEN, says = "BAD", edge = "a run() that was BAD")
    private static void badAfterBad() {
        VirtualRewrite x = Samples.answers(3);
        x.run();
        x.clear();
        Check.due("run()", x.run(), BAD);
        noAnswers(x);
    }

    @Sentence(promise = FIFTEEN, says = COUNT, edge = "what changes after the run() does not change it")
    private static void changesAfterRun() {
        VirtualRewrite x = fourUnions();
        x.run();
        x.mapping(0, 0, 0, 0, 0, 1);
        x.drop(0, 0);
        x.drop(0, 0);
        x.unions();
        x.union(0, 8);
        x.clear();
        x.atom(0, 5, 5);
        Check.due("found(0, 0)", x.found(0, 0), 3);
        Check.due("found(0, 1)", x.found(0, 1), 0);
        Check.due("found(3, 1)", x.found(3, 1), 2);
    }

    @Sentence(promise = FIFTEEN, says = COUNT, edge = "each run() counts anew")
    private static void eachRunCountsAnew() {
        VirtualRewrite x = fourUnions();
        x.run();
        x.run();
        Check.due("found(0, 0)", x.found(0, 0), 3);
        x.drop(0, 0);
        x.drop(0, 0);
        x.run();
        Check.due("found(0, 0) by union 1 alone", x.found(0, 0), 1);
        Check.due("found(0, 1) by union 1 alone", x.found(0, 1), 1);
    }
}
