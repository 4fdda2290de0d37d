/** All promises: "An object is used for at most 512 calls after it has been made". */
public final class LastCallTest {
    private static final String SAYS = "An object is used for at most 512 calls after it has been made";
    private static final int CALLS = 512;
    private static final int FULL = VirtualRewrite.FULL;

    public static void main(String[] args) {
        Sentences.run(LastCallTest.class);
    }

    @Sentence(promise = "13: run", says = SAYS, edge = "the last call is the first run()")
    private static void lastCallRuns() {
        VirtualRewrite x = Samples.answers(20);
        for (int calls = 22; calls < CALLS - 1; calls++) {
            x.triples();
        }
        Check.due("call 512, run()", x.run(), 20);
    }

    @Sentence(promise = "13: run", says = SAYS, edge = "the same answer each time")
    private static void runAllTheTime() {
        VirtualRewrite x = Samples.answers301();
        x.drop(0, 18);
        for (int calls = 42; calls < CALLS - 1; calls++) {
            Check.due("call " + calls + ", run()", x.run(), 300);
        }
        Check.due("call 512, value(299, 0)", x.value(299, 0), 17);
    }

    /** Table t leads from numbers by 100 times t to numbers by 100 times t + 1, and no way leads back. */
    @Sentence(promise = "13: run", says = SAYS, edge = "72 unions with many ways that never meet")
    private static void dearRuns() {
        VirtualRewrite x = new VirtualRewrite();
        for (int i = 0; i < 20; i++) {
            for (int table = 0; table < 4; table++) {
                x.row(table, 100 * table + i % 5, 100 * table + 100 + i % 4, i);
            }
        }
        int[] each = {4, 3, 3, 2};
        for (int table = 0; table < 4; table++) {
            for (int i = 0; i < each[table]; i++) {
                x.mapping(table, table, 0, 0, 0, 1);
            }
        }
        for (int i = 0; i < 3; i++) {
            x.atom(i, -1 - i, -2 - i);
        }
        x.atom(3, -4, -1);
        Check.due("unions()", x.unions(), 72);
        for (int calls = 97; calls < CALLS; calls++) {
            Check.due("call " + calls + ", run()", x.run(), 0);
        }
    }

    @Sentence(promise = "3: row", says = SAYS, edge = "refused all the time")
    private static void refusedAllTheTime() {
        VirtualRewrite x = Samples.withRows(0, 20);
        for (int calls = 20; calls < CALLS; calls++) {
            Check.due("call " + calls + ", row", x.row(0, 5, 5, 5), FULL);
        }
    }

    @Sentence(promise = "4: drop", says = SAYS, edge = "a row comes and goes all the time")
    private static void rowComesAndGoes() {
        VirtualRewrite x = Samples.withRows(0, 18);
        for (int calls = 18; calls < CALLS; calls += 2) {
            Check.due("call " + calls + ", row", x.row(0, calls, 5, 5), 19);
            Check.due("call " + (calls + 1) + ", drop", x.drop(0, calls % 19), 18);
        }
    }

    @Sentence(promise = "9: clear", says = SAYS, edge = "a question comes and goes all the time")
    private static void questionComesAndGoes() {
        VirtualRewrite x = Samples.oneAnswer();
        x.clear();
        for (int calls = 4; calls <= CALLS - 4; calls += 4) {
            Check.due("call " + calls + ", span", x.span(0, 1, 1), 1);
            Check.due("call " + (calls + 1) + ", atom", x.atom(0, -1, -2), 1);
            Check.due("call " + (calls + 2) + ", run()", x.run(), 1);
            Check.due("call " + (calls + 3) + ", clear()", x.clear(), 1);
        }
    }
}
