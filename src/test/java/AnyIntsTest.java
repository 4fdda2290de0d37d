/**
 * Promises 2 to 15: each call with ints inside, at and beyond its limits, the least and the greatest
 * too, answers what the document says, and throws nothing but value's IllegalStateException.
 */
public final class AnyIntsTest {
    private static final int[] INTS = {
        Integer.MIN_VALUE, Integer.MIN_VALUE + 1, Integer.MIN_VALUE + 6, -10000, -8, -7, -6, -5, -1, 0, 1, 2, 3, 4, 5, 6,
        7, 8, 9, 11, 12, 19, 20, 149, 150, 151, 299, 300, 301, 9999, 10000, 59999, 60000, 1 << 16, 1 << 29, 1 << 30,
        Integer.MAX_VALUE - 1, Integer.MAX_VALUE};
    /** For calls with many arguments, which are told in all ways. */
    private static final int[] FEW = {Integer.MIN_VALUE, -1, 0, 2, 3, Integer.MAX_VALUE};
    /** Nothing is promised of later calls; those that made the object come first. */
    private static final int CALLS = 380;

    /** How many rows, mappings and atoms: none, few, the most, too many answers, and too many unions. */
    private static final int[][] STATES = {{0, 0, 0}, {2, 2, 1}, {3, 5, 2}, {20, 12, 1}, {20, 2, 4}, {2, 12, 4}};

    /** The class, and what the document asks of it. */
    private static final class Pair {
        final VirtualRewrite x = new VirtualRewrite();
        final Triples y = new Triples();
        int calls = 0;
    }

    private static int[] state;
    private static Pair pair;

    private AnyIntsTest() {
    }

    public static void main(String[] args) {
        Sentences.run(AnyIntsTest.class);
    }

    private static void begin(int[] of) {
        state = of;
        pair = null;
    }

    private static void inAllStates(Runnable calls) {
        for (int[] of : STATES) {
            begin(of);
            calls.run();
        }
    }

    private static void make() {
        pair = new Pair();
        for (int table = 0; table < 3; table++) {
            for (int i = 0; i < state[0]; i++) {
                pair.x.row(table, i, i % 4, i % 2);
                pair.y.row(table, i, i % 4, i % 2);
            }
        }
        pair.x.key(0, 0, true);
        pair.y.key(0, 0, true);
        for (int i = 0; i < state[1]; i++) {
            pair.x.mapping(i % 3, 0, 0, 0, i % 2, 1);
            pair.y.mapping(i % 3, 0, 0, 0, i % 2, 1);
        }
        for (int i = 0; i < state[2]; i++) {
            pair.x.atom(0, -1 - i, -6);
            pair.y.atom(0, -1 - i, -6);
        }
        pair.x.run();
        pair.y.run();
    }

    /** A new object when the last one has had its calls, so that each state is asked again and again. */
    private static Pair next() {
        if (pair == null || pair.calls >= CALLS) {
            make();
        }
        pair.calls++;
        return pair;
    }

    private static void due(String name, int got, int want, int... told) {
        StringBuilder text = new StringBuilder(name).append('(');
        for (int i = 0; i < told.length; i++) {
            text.append(i == 0 ? "" : ", ").append(told[i]);
        }
        Check.due(text.append(") with " + state[0] + " rows, " + state[1] + " mappings, " + state[2] + " atoms").toString(), got, want);
    }

    @Sentence(promise = "2: key", says = "TABLES are 0 .. 3, each with COLUMNS 0 .. 2", edge = "any ints")
    private static void key() {
        inAllStates(() -> {
            for (int table : INTS) {
                for (int column : INTS) {
                    boolean is = next().calls % 2 == 0;
                    due("key", pair.x.key(table, column, is), pair.y.key(table, column, is), table, column);
                }
            }
        });
    }

    @Sentence(promise = "3: row", says = "numbers 0 .. 9999", edge = "any ints")
    private static void row() {
        int[] numbers = {Integer.MIN_VALUE, -1, 0, 19, 9999, 10000, Integer.MAX_VALUE};
        int[] tables = {Integer.MIN_VALUE, -1, 0, 1, 3, 4, Integer.MAX_VALUE};
        inAllStates(() -> {
            for (int table : tables) {
                for (int a : numbers) {
                    for (int b : numbers) {
                        for (int c : numbers) {
                            Pair p = next();
                            due("row", p.x.row(table, a, b, c), p.y.row(table, a, b, c), table, a, b, c);
                        }
                    }
                }
            }
        });
    }

    @Sentence(promise = "4: drop", says = "Row i of a table goes", edge = "any ints")
    private static void drop() {
        inAllStates(() -> {
            for (int table : INTS) {
                for (int i : INTS) {
                    Pair p = next();
                    due("drop", p.x.drop(table, i), p.y.drop(table, i), table, i);
                }
            }
        });
    }

    @Sentence(promise = "5: mapping", says = "A MAPPING, at most 12, numbered from 0", edge = "any ints")
    private static void mapping() {
        for (int mappings = 0; mappings <= 12; mappings += 12) {
            begin(new int[] {2, mappings, 0});
            for (int code = 0; code < 46656; code++) {
                int[] m = new int[6];
                for (int at = 0, rest = code; at < 6; at++, rest /= 6) {
                    m[at] = FEW[rest % 6];
                }
                Pair p = next();
                due("mapping", p.x.mapping(m[0], m[1], m[2], m[3], m[4], m[5]), p.y.mapping(m), m);
            }
        }
    }

    @Sentence(promise = "7: atom", says = "BAD: no predicate, code, variable", edge = "any ints")
    private static void atom() {
        int[] predicates = {Integer.MIN_VALUE, -1, 0, 7, 8, Integer.MAX_VALUE};
        inAllStates(() -> {
            for (int predicate : predicates) {
                for (int subject : INTS) {
                    for (int object : INTS) {
                        Pair p = next();
                        due("atom", p.x.atom(predicate, subject, object), p.y.atom(predicate, subject, object), predicate,
                                subject, object);
                        if (p.calls % 3 == 0) {
                            due("clear", p.x.clear(), p.y.clear());
                            p.calls++;
                        }
                    }
                }
            }
        });
    }

    @Sentence(promise = "8: span", says = "a variable's number is to be from one number to another one", edge = "any ints")
    private static void span() {
        int[] variables = {Integer.MIN_VALUE, -6, -1, 0, 1, 5, 6, Integer.MAX_VALUE};
        begin(new int[] {4, 2, 2});
        for (int variable : variables) {
            for (int from : INTS) {
                for (int to : INTS) {
                    Pair p = next();
                    p.calls += 4;
                    due("span", p.x.span(variable, from, to), p.y.span(variable, from, to), variable, from, to);
                    due("run", p.x.run(), p.y.run(), variable, from, to);
                    due("clear", p.x.clear(), p.y.clear());
                    p.x.atom(0, -1, -6);
                    p.y.atom(0, -1, -6);
                }
            }
        }
    }

    @Sentence(promise = "11: union", says = "BAD: none such, no such atom; LARGE", edge = "any ints")
    private static void union() {
        inAllStates(() -> {
            for (int i : INTS) {
                for (int what : INTS) {
                    Pair p = next();
                    due("union", p.x.union(i, what), p.y.union(i, what), i, what);
                }
            }
        });
    }

    @Sentence(promise = "12: estimate", says = "BAD; LARGE", edge = "any ints")
    private static void estimate() {
        inAllStates(() -> {
            for (int i : INTS) {
                Pair p = next();
                due("estimate", p.x.estimate(i), p.y.estimate(i), i);
            }
        });
    }

    @Sentence(promise = "14: value", says = "BAD: none such", edge = "any ints")
    private static void value() {
        inAllStates(() -> {
            for (int i : INTS) {
                for (int variable : INTS) {
                    Pair p = next();
                    int want = p.y.value(i, variable);
                    if (want == Integer.MIN_VALUE) {
                        Check.dueThrow("value(" + i + ", " + variable + ")", p.x, i, variable);
                    } else {
                        due("value", p.x.value(i, variable), want, i, variable);
                    }
                }
            }
        });
    }

    @Sentence(promise = "15: found", says = "BAD", edge = "any ints")
    private static void found() {
        inAllStates(() -> {
            for (int i : INTS) {
                for (int what : INTS) {
                    Pair p = next();
                    due("found", p.x.found(i, what), p.y.found(i, what), i, what);
                }
            }
        });
    }
}
