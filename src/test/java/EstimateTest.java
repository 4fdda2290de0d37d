/** Promise 12: estimate. */
public final class EstimateTest {
    private static final String TWELVE = "12: estimate";
    private static final String PRODUCT = "The product of how many rows the tables of its slots have";
    private static final int BAD = VirtualRewrite.BAD;
    private static final int LARGE = VirtualRewrite.LARGE;

    public static void main(String[] args) {
        Sentences.run(EstimateTest.class);
    }

    /** Table t has rows[t] rows, and predicate t is a mapping of it. */
    private static VirtualRewrite withRows(int... rows) {
        VirtualRewrite x = new VirtualRewrite();
        for (int table = 0; table < rows.length; table++) {
            for (int i = 0; i < rows[table]; i++) {
                x.row(table, i, 0, 0);
            }
            x.mapping(table, table, 0, 0, 0, 1);
        }
        return x;
    }

    @Sentence(promise = TWELVE, says = PRODUCT, edge = "one slot of no, one or twenty rows")
    private static void oneSlot() {
        VirtualRewrite x = withRows(0, 1, 20);
        int[] due = {0, 1, 20};
        for (int predicate = 0; predicate < 3; predicate++) {
            x.clear();
            x.atom(predicate, -1, -2);
            Check.due("estimate(0) of table " + predicate, x.estimate(0), due[predicate]);
        }
    }

    @Sentence(promise = TWELVE, says = PRODUCT, edge = "four slots of different tables")
    private static void fourTables() {
        VirtualRewrite x = withRows(2, 3, 5, 7);
        int[] due = {2, 6, 30, 210};
        for (int i = 0; i < 4; i++) {
            x.atom(i, -1, -2);
            Check.due("estimate(0) of " + (i + 1), x.estimate(0), due[i]);
        }
    }

    @Sentence(promise = TWELVE, says = PRODUCT, edge = "one empty table among them makes 0")
    private static void oneEmptyTable() {
        VirtualRewrite x = withRows(20, 20, 0, 20);
        for (int i = 0; i < 4; i++) {
            x.atom(i, -1, -2);
        }
        Check.due("estimate(0)", x.estimate(0), 0);
        x.row(2, 1, 1, 1);
        Check.due("estimate(0) with a row", x.estimate(0), 8000);
    }

    @Sentence(promise = TWELVE, says = PRODUCT, edge = "the most: four slots of twenty rows")
    private static void theMost() {
        VirtualRewrite x = withRows(20);
        for (int i = 0; i < 4; i++) {
            x.atom(0, -1, -2);
        }
        Check.due("estimate(0)", x.estimate(0), 160000);
    }

    @Sentence(promise = TWELVE, says = PRODUCT, edge = "four atoms of one slot count once")
    private static void oneSlotOfFourAtoms() {
        VirtualRewrite x = withRows(20);
        x.key(0, 0, true);
        for (int i = 0; i < 4; i++) {
            x.atom(0, -1, -2 - i);
        }
        Check.due("estimate(0)", x.estimate(0), 20);
    }

    @Sentence(promise = TWELVE, says = PRODUCT, edge = "a slot whose atoms stand apart counts once")
    private static void slotOfAtomsApart() {
        VirtualRewrite x = withRows(20, 3);
        x.key(0, 0, true);
        x.atom(0, -1, -2);
        x.atom(1, -1, -3);
        x.atom(0, -1, -4);
        Check.due("estimate(0)", x.estimate(0), 60);
        x.atom(1, -1, -5);
        Check.due("estimate(0) with another slot", x.estimate(0), 180);
    }

    @Sentence(promise = TWELVE, says = PRODUCT, edge = "it follows rows and keys")
    private static void followsRowsAndKeys() {
        VirtualRewrite x = withRows(4);
        x.atom(0, -1, -2);
        x.atom(0, -1, -3);
        Check.due("estimate(0)", x.estimate(0), 16);
        x.drop(0, 0);
        Check.due("estimate(0) with a row less", x.estimate(0), 9);
        x.key(0, 0, true);
        Check.due("estimate(0) with a key", x.estimate(0), 3);
        x.row(0, 100, 0, 0);
        Check.due("estimate(0) with a row more", x.estimate(0), 4);
        x.key(0, 0, false);
        Check.due("estimate(0) without the key", x.estimate(0), 16);
    }

    @Sentence(promise = TWELVE, says = PRODUCT, edge = "codes, spans and rows alike do not lessen it")
    private static void codesAndSpansDoNotMatter() {
        VirtualRewrite x = withRows(5);
        x.row(0, 0, 0, 0);
        x.atom(0, 3, -1);
        x.span(0, 9, 8);
        Check.due("estimate(0)", x.estimate(0), 6);
    }

    @Sentence(promise = TWELVE, says = PRODUCT, edge = "each union has its own")
    private static void eachUnion() {
        VirtualRewrite x = withRows(2, 3);
        x.mapping(1, 0, 0, 0, 0, 1);
        x.atom(0, -1, -2);
        x.atom(0, -3, -4);
        int[] due = {4, 6, 6, 9};
        for (int i = 0; i < 4; i++) {
            Check.due("estimate(" + i + ")", x.estimate(i), due[i]);
        }
    }

    @Sentence(promise = TWELVE, says = "BAD", edge = "i beyond both ends")
    private static void badUnion() {
        VirtualRewrite x = withRows(2);
        x.mapping(0, 0, 0, 0, 0, 1);
        x.atom(0, -1, -2);
        for (int i : Samples.outside(2)) {
            Check.due("estimate(" + i + ")", x.estimate(i), BAD);
        }
        Check.due("estimate(1)", x.estimate(1), 2);
    }

    @Sentence(promise = TWELVE, says = "BAD", edge = "behind the last of 150")
    private static void badBehind150() {
        VirtualRewrite x = Samples.unions150();
        for (int i : Samples.outside(150)) {
            Check.due("estimate(" + i + ")", x.estimate(i), BAD);
        }
        Check.due("estimate(149)", x.estimate(149), 1);
    }

    @Sentence(promise = TWELVE, says = "BAD", edge = "no atoms")
    private static void badWithoutAtoms() {
        VirtualRewrite x = withRows(2);
        Check.due("estimate(0)", x.estimate(0), BAD);
        x.atom(0, -1, -2);
        x.clear();
        Check.due("estimate(0) after clear()", x.estimate(0), BAD);
    }

    @Sentence(promise = TWELVE, says = "BAD", edge = "no unions")
    private static void badWithoutUnions() {
        VirtualRewrite x = withRows(2);
        x.atom(0, 50000, -2);
        Check.due("estimate(0)", x.estimate(0), BAD);
    }

    @Sentence(promise = TWELVE, says = "LARGE", edge = "151 unions")
    private static void largeOf151() {
        VirtualRewrite x = Samples.unions151();
        Check.due("estimate(0)", x.estimate(0), LARGE);
        Check.due("estimate(150)", x.estimate(150), LARGE);
        x.clear();
        x.atom(0, -1, -2);
        Check.due("estimate(0) of the next question", x.estimate(0), 1);
    }

    @Sentence(promise = TWELVE, says = "BAD; LARGE", edge = "BAD where LARGE would be due too")
    private static void badComesFirst() {
        VirtualRewrite x = Samples.unions151();
        Check.due("estimate(-1)", x.estimate(-1), BAD);
        Check.due("estimate(least)", x.estimate(Integer.MIN_VALUE), BAD);
    }
}
