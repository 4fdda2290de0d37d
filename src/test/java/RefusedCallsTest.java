import java.util.ArrayList;
import java.util.List;
import java.util.function.ToIntFunction;

/**
 * Promises 2 to 15: a call that is refused leaves all as it was. Two objects have the same calls, but
 * one of them a refused call more; whatever is asked then, both answer the same.
 */
public final class RefusedCallsTest {
    private static final int BAD = VirtualRewrite.BAD;
    private static final int FULL = VirtualRewrite.FULL;
    private static final int LARGE = VirtualRewrite.LARGE;
    private static final int NO = VirtualRewrite.NO;
    private static final int THROWN = Integer.MIN_VALUE;

    public static void main(String[] args) {
        Sentences.run(RefusedCallsTest.class);
    }

    /** Two tables with rows, one of them full, a key, mappings, a question with a span, and answers. */
    private static VirtualRewrite ordinary() {
        VirtualRewrite x = new VirtualRewrite();
        for (int i = 0; i < 20; i++) {
            x.row(1, i, i % 5, i % 3);
        }
        for (int i = 0; i < 4; i++) {
            x.row(0, i, 10 + i, 5);
        }
        x.key(0, 0, true);
        x.mapping(0, 0, 1, 0, 2, 1);
        x.mapping(1, 1, 1, 1, 3, 2);
        x.mapping(1, 0, 1, 1, 2, 0);
        x.atom(0, -1, -2);
        x.atom(1, -1, -3);
        x.span(0, 1, 3);
        x.run();
        return x;
    }

    /** As above, with the most mappings, atoms and spans. */
    private static VirtualRewrite full() {
        VirtualRewrite x = ordinary();
        for (int i = 3; i < 12; i++) {
            x.mapping(i % 4, i % 8, i % 6, i % 3, 5 - i % 6, 0);
        }
        x.atom(0, -1, -2);
        x.atom(1, -1, -3);
        for (int i = 0; i < 3; i++) {
            x.span(i, 0, 9999);
        }
        x.run();
        return x;
    }

    /** As the first, but without atoms, after a run() with answers. */
    private static VirtualRewrite cleared() {
        VirtualRewrite x = ordinary();
        x.clear();
        return x;
    }

    /** Answers of the latest run(), before anything else is asked. */
    private static void seeAnswers(VirtualRewrite x, List<Integer> seen) {
        for (int i = -1; i < 12; i++) {
            for (int variable = 0; variable < 6; variable++) {
                int told = THROWN;
                try {
                    told = x.value(i, variable);
                } catch (IllegalStateException e) {
                    // Looked at as an answer of its own.
                }
                seen.add(told);
            }
            seen.add(x.found(i, 0));
            seen.add(x.found(i, 1));
        }
    }

    private static void seeUnions(VirtualRewrite x, List<Integer> seen) {
        seen.add(x.triples());
        seen.add(x.unions());
        for (int i = 0; i < 4; i++) {
            for (int what = 0; what < 9; what++) {
                seen.add(x.union(i, what));
            }
            seen.add(x.estimate(i));
        }
        seen.add(x.run());
        for (int i = 0; i < 8; i++) {
            seen.add(x.found(i, 0));
        }
    }

    /** How much room there is, what is a key, and which rows there are. */
    private static void seeTheRest(VirtualRewrite x, List<Integer> seen) {
        for (int i = 0; i < 5; i++) {
            seen.add(x.span(5, 0, 9999));
            seen.add(x.atom(7, -1, -1));
        }
        seen.add(x.clear());
        for (int column = 0; column < 3; column++) {
            for (int table = 0; table < 4; table++) {
                seen.add(x.key(table, column, false));
            }
        }
        for (int i = 0; i < 13; i++) {
            seen.add(x.mapping(0, 6, 0, 1, 0, 2));
        }
        for (int predicate = 0; predicate < 8; predicate++) {
            x.atom(predicate, -1, -2);
            seen.add(x.run());
            for (int i = 0; i < 5; i++) {
                seen.add(x.found(i, 0));
            }
            x.clear();
        }
        for (int table = 0; table < 4; table++) {
            seen.add(x.row(table, 9999, 9999, 9999));
            for (int i = 0; i < 21; i++) {
                seen.add(x.drop(table, 0));
            }
        }
    }

    private static List<Integer> all(VirtualRewrite x) {
        List<Integer> seen = new ArrayList<>();
        seeAnswers(x, seen);
        seeUnions(x, seen);
        seeTheRest(x, seen);
        return seen;
    }

    private static void leaves(String state, VirtualRewrite x, VirtualRewrite same, int due, ToIntFunction<VirtualRewrite> call) {
        Check.due(state + ": the refused call", call.applyAsInt(x), due);
        List<Integer> seen = all(x);
        List<Integer> want = all(same);
        Check.due(state + ": how much was seen", seen.size(), want.size());
        for (int i = 0; i < want.size(); i++) {
            Check.due(state + ": answer " + i + " after it", seen.get(i), want.get(i));
        }
    }

    private static void leaves(int due, ToIntFunction<VirtualRewrite> call) {
        leaves("ordinary", ordinary(), ordinary(), due, call);
        leaves("full", full(), full(), due, call);
        leaves("cleared", cleared(), cleared(), due, call);
    }

    @Sentence(promise = "2: key", says = "BAD", edge = "all is as it was")
    private static void keyBad() {
        leaves(BAD, x -> x.key(4, 0, true));
        leaves(BAD, x -> x.key(0, 3, true));
        leaves(BAD, x -> x.key(-1, 0, false));
        leaves(BAD, x -> x.key(1, -3, true));
    }

    @Sentence(promise = "2: key", says = "NO when rows have the same number in it", edge = "all is as it was")
    private static void keyNo() {
        leaves(NO, x -> x.key(0, 2, true));
        leaves(NO, x -> x.key(1, 1, true));
    }

    @Sentence(promise = "2: key", says = "0 if it was so", edge = "all is as it was")
    private static void keyAsItWas() {
        leaves(0, x -> x.key(0, 0, true));
        leaves(0, x -> x.key(1, 0, false));
    }

    @Sentence(promise = "3: row", says = "BAD", edge = "all is as it was")
    private static void rowBad() {
        leaves(BAD, x -> x.row(4, 50, 50, 50));
        leaves(BAD, x -> x.row(-1, 50, 50, 50));
        leaves(BAD, x -> x.row(0, 50, 50, 10000));
        leaves(BAD, x -> x.row(0, -1, 50, 50));
    }

    @Sentence(promise = "3: row", says = "NO when a key's number is there", edge = "all is as it was")
    private static void rowNo() {
        leaves(NO, x -> x.row(0, 3, 50, 50));
    }

    @Sentence(promise = "3: row", says = "FULL", edge = "all is as it was")
    private static void rowFull() {
        leaves(FULL, x -> x.row(1, 50, 50, 50));
    }

    @Sentence(promise = "4: drop", says = "BAD", edge = "all is as it was")
    private static void dropBad() {
        leaves(BAD, x -> x.drop(0, 4));
        leaves(BAD, x -> x.drop(1, 20));
        leaves(BAD, x -> x.drop(1, -1));
        leaves(BAD, x -> x.drop(2, 0));
        leaves(BAD, x -> x.drop(4, 0));
    }

    @Sentence(promise = "5: mapping", says = "BAD", edge = "all is as it was")
    private static void mappingBad() {
        leaves(BAD, x -> x.mapping(4, 0, 0, 0, 0, 1));
        leaves(BAD, x -> x.mapping(0, 8, 0, 0, 0, 1));
        leaves(BAD, x -> x.mapping(0, 0, 6, 0, 0, 1));
        leaves(BAD, x -> x.mapping(0, 0, 0, 3, 0, 1));
        leaves(BAD, x -> x.mapping(0, 0, 0, 0, 6, 1));
        leaves(BAD, x -> x.mapping(0, 0, 0, 0, 0, 3));
    }

    @Sentence(promise = "5: mapping", says = "FULL", edge = "all is as it was")
    private static void mappingFull() {
        leaves("full", full(), full(), FULL, x -> x.mapping(0, 0, 0, 0, 0, 1));
    }

    @Sentence(promise = "7: atom", says = "BAD: no predicate, code, variable", edge = "all is as it was")
    private static void atomBad() {
        leaves(BAD, x -> x.atom(8, -1, -2));
        leaves(BAD, x -> x.atom(0, -7, -2));
        leaves(BAD, x -> x.atom(0, -1, 60000));
    }

    @Sentence(promise = "7: atom", says = "FULL", edge = "all is as it was")
    private static void atomFull() {
        leaves("full", full(), full(), FULL, x -> x.atom(7, -4, 0));
    }

    @Sentence(promise = "8: span", says = "BAD: no variable", edge = "all is as it was")
    private static void spanBad() {
        leaves(BAD, x -> x.span(6, 5, 4));
        leaves(BAD, x -> x.span(-1, 5, 4));
    }

    @Sentence(promise = "8: span", says = "FULL", edge = "all is as it was")
    private static void spanFull() {
        leaves("full", full(), full(), FULL, x -> x.span(0, 5, 4));
    }

    @Sentence(promise = "10: unions", says = "BAD without atoms", edge = "all is as it was")
    private static void unionsBad() {
        leaves("cleared", cleared(), cleared(), BAD, x -> x.unions());
    }

    @Sentence(promise = "11: union", says = "BAD: none such, no such atom", edge = "all is as it was")
    private static void unionBad() {
        leaves(BAD, x -> x.union(-1, 0));
        leaves(BAD, x -> x.union(0, 9));
        leaves(BAD, x -> x.union(150, 8));
        leaves("ordinary", ordinary(), ordinary(), BAD, x -> x.union(0, 2));
    }

    @Sentence(promise = "12: estimate", says = "BAD", edge = "all is as it was")
    private static void estimateBad() {
        leaves(BAD, x -> x.estimate(-1));
        leaves(BAD, x -> x.estimate(150));
    }

    @Sentence(promise = "14: value", says = "BAD: none such", edge = "all is as it was")
    private static void valueBad() {
        leaves(BAD, x -> x.value(-1, 0));
        leaves(BAD, x -> x.value(300, 0));
        leaves(BAD, x -> x.value(0, 6));
    }

    @Sentence(promise = "15: found", says = "BAD", edge = "all is as it was")
    private static void foundBad() {
        leaves(BAD, x -> x.found(-1, 0));
        leaves(BAD, x -> x.found(300, 1));
        leaves(BAD, x -> x.found(0, 2));
    }

    @Sentence(promise = "10: unions", says = "LARGE", edge = "all is as it was, of unions, union and estimate")
    private static void largeOfUnions() {
        leaves("large", Samples.unions151(), Samples.unions151(), LARGE, x -> x.unions());
        leaves("large", Samples.unions151(), Samples.unions151(), LARGE, x -> x.union(0, 8));
        leaves("large", Samples.unions151(), Samples.unions151(), LARGE, x -> x.estimate(0));
    }

    @Sentence(promise = "13: run", says = "LARGE (also of unions)", edge = "but for the answers all is as it was")
    private static void largeOfRun() {
        leaves("large", Samples.unions151(), Samples.unions151(), LARGE, x -> x.run());
        leaves("many", Samples.answers301(), Samples.answers301(), LARGE, x -> x.run());
    }
}
