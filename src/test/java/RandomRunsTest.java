import java.util.Random;

/** Promises 1 to 15: runs of calls whose answers are those of the triples made one by one. */
public final class RandomRunsTest {
    private static final int RUNS = 1000;
    /** Nothing is promised of later calls. */
    private static final int CALLS = 512;

    private final Random random;
    private final VirtualRewrite x = new VirtualRewrite();
    private final Triples y = new Triples();
    private final String name;
    private final int numbers;
    private final int predicates;
    private final int templates;
    private final int tables;
    private int calls = 0;
    private int answers = 0;

    private RandomRunsTest(int seed) {
        random = new Random(seed);
        name = "run " + seed + ": ";
        numbers = 1 + random.nextInt(random.nextBoolean() ? 4 : 30);
        predicates = 1 + random.nextInt(3);
        templates = 1 + random.nextInt(3);
        tables = 1 + random.nextInt(4);
    }

    public static void main(String[] args) {
        for (int seed = 0; seed < RUNS && !Check.isWrong(); seed++) {
            new RandomRunsTest(seed).go();
        }
        Check.end();
    }

    /** Now and then a little beyond the limits. */
    private int below(int limit) {
        int odd = random.nextInt(60);
        return odd == 0 ? -1 : odd == 1 ? limit : random.nextInt(limit);
    }

    private int place() {
        int kind = random.nextInt(12);
        if (kind == 0) {
            return 10000 * below(6) + random.nextInt(numbers);
        }
        if (kind <= 2) {
            return 10000 * random.nextInt(templates) + random.nextInt(numbers);
        }
        return -1 - (random.nextInt(3) == 0 ? below(6) : random.nextInt(4));
    }

    private void due(String call, int got, int want) {
        calls++;
        Check.due(name + call, got, want);
    }

    private boolean goesOn() {
        return calls < CALLS - 4 && !Check.isWrong();
    }

    private void go() {
        int first = 30 + random.nextInt(60);
        for (int i = 0; i < first; i++) {
            change();
        }
        while (calls < CALLS - 100 && !Check.isWrong()) {
            change();
            if (random.nextInt(10) == 0) {
                askUnions();
                askAnswers(10);
            }
        }
        askAnswers(CALLS);
    }

    private void change() {
        int kind = random.nextInt(100);
        if (kind < 12) {
            int table = random.nextInt(3) == 0 ? below(4) : random.nextInt(tables);
            int column = below(3);
            boolean is = random.nextInt(3) > 0;
            due("key", x.key(table, column, is), y.key(table, column, is));
        } else if (kind < 50) {
            int table = random.nextInt(9) == 0 ? below(4) : random.nextInt(tables);
            int a = random.nextInt(80) == 0 ? 10000 : random.nextInt(numbers);
            int b = random.nextInt(80) == 0 ? -1 : random.nextInt(numbers);
            int c = random.nextInt(80) == 0 ? 10000 : random.nextInt(numbers);
            due("row", x.row(table, a, b, c), y.row(table, a, b, c));
        } else if (kind < 58) {
            int table = below(4);
            int i = random.nextInt(21);
            due("drop", x.drop(table, i), y.drop(table, i));
        } else if (kind < 68) {
            int[] m = {random.nextInt(tables), random.nextInt(predicates), random.nextInt(templates), below(3),
                random.nextInt(templates), below(3)};
            due("mapping", x.mapping(m[0], m[1], m[2], m[3], m[4], m[5]), y.mapping(m));
        } else if (kind < 87) {
            int predicate = random.nextInt(20) == 0 ? below(8) : random.nextInt(predicates);
            int subject = place();
            int object = place();
            due("atom", x.atom(predicate, subject, object), y.atom(predicate, subject, object));
        } else if (kind < 92) {
            int variable = below(6);
            int from = random.nextInt(numbers) / 2;
            int to = random.nextInt(8) == 0 ? from - 1 : from + random.nextInt(numbers);
            due("span", x.span(variable, from, to), y.span(variable, from, to));
        } else {
            due("clear", x.clear(), y.clear());
        }
    }

    private void askUnions() {
        due("triples", x.triples(), y.triples());
        int unions = y.unions();
        due("unions", x.unions(), unions);
        int i = random.nextInt(Math.max(unions, 0) + 2) - 1;
        for (int what = -1; what < 10; what++) {
            due("union", x.union(i, what), y.union(i, what));
        }
        due("estimate", x.estimate(i), y.estimate(i));
    }

    /** Those that follow one another, as their order is looked at too. */
    private void askAnswers(int most) {
        if (random.nextInt(4) > 0) {
            answers = y.run();
            due("run", x.run(), answers);
        }
        int start = random.nextInt(Math.max(answers, 0) + 1) - 1;
        for (int i = start; i < start + most && i < 302 && goesOn(); i++) {
            compareValue(i, below(6));
            compareValue(i, 0);
            due("found", x.found(i, i & 1), y.found(i, i & 1));
            int what = below(2);
            due("found", x.found(i, what), y.found(i, what));
        }
    }

    private void compareValue(int i, int variable) {
        int want = y.value(i, variable);
        if (want == Integer.MIN_VALUE) {
            calls++;
            Check.dueThrow(name + "value", x, i, variable);
        } else {
            due("value", x.value(i, variable), want);
        }
    }
}
