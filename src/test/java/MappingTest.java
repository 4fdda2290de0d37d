/** Promise 5: mapping. */
public final class MappingTest {
    private static final String FIVE = "5: mapping";
    private static final int BAD = VirtualRewrite.BAD;
    private static final int FULL = VirtualRewrite.FULL;
    /** How many tables, predicates, templates, columns, templates, columns there are. */
    private static final int[] LIMITS = {4, 8, 6, 3, 6, 3};

    public static void main(String[] args) {
        Sentences.run(MappingTest.class);
    }

    private static int mapping(VirtualRewrite x, int[] told) {
        return x.mapping(told[0], told[1], told[2], told[3], told[4], told[5]);
    }

    private static VirtualRewrite withMappings(int count) {
        VirtualRewrite x = new VirtualRewrite();
        for (int i = 0; i < count; i++) {
            x.mapping(0, 0, 0, 0, 0, 1);
        }
        return x;
    }

    private static void badAt(int at) {
        VirtualRewrite x = new VirtualRewrite();
        for (int w : Samples.outside(LIMITS[at])) {
            int[] told = new int[6];
            told[at] = w;
            Check.due("mapping with " + w + " at " + at, mapping(x, told), BAD);
        }
        Check.due("the first that is taken", x.mapping(0, 0, 0, 0, 0, 0), 0);
    }

    @Sentence(promise = FIVE, says = "A mapping: its number", edge = "from 0 to 11, of one table and predicate")
    private static void numbersOfMappingsAlike() {
        VirtualRewrite x = new VirtualRewrite();
        for (int i = 0; i < 12; i++) {
            Check.due("mapping " + i, x.mapping(1, 1, 1, 1, 1, 1), i);
        }
    }

    @Sentence(promise = FIVE, says = "A mapping: its number", edge = "one count for all tables and predicates")
    private static void numbersOfDifferentMappings() {
        VirtualRewrite x = new VirtualRewrite();
        for (int i = 0; i < 12; i++) {
            Check.due("mapping " + i, x.mapping(i % 4, i % 8, i % 6, i % 3, 5 - i % 6, 2 - i % 3), i);
        }
    }

    @Sentence(promise = FIVE, says = "A mapping: its number", edge = "the greatest of each argument is taken")
    private static void greatestArguments() {
        VirtualRewrite x = new VirtualRewrite();
        for (int at = 0; at < 6; at++) {
            int[] told = new int[6];
            told[at] = LIMITS[at] - 1;
            Check.due("mapping with " + told[at] + " at " + at, mapping(x, told), at);
        }
        Check.due("mapping(3, 7, 5, 2, 5, 2)", x.mapping(3, 7, 5, 2, 5, 2), 6);
    }

    @Sentence(promise = FIVE, says = "a term with a template of one column's number, a term with a template of one column's number",
            edge = "each argument has its own part")
    private static void eachArgumentHasItsPart() {
        VirtualRewrite x = new VirtualRewrite();
        x.row(3, 10, 20, 30);
        x.mapping(3, 7, 5, 2, 4, 1);
        x.atom(7, -1, -2);
        Check.due("run()", x.run(), 1);
        Check.due("the subject", x.value(0, 0), 50030);
        Check.due("the object", x.value(0, 1), 40020);
    }

    @Sentence(promise = FIVE, says = "makes of each row of a table a TRIPLE", edge = "of rows that come later too")
    private static void rowsThatComeLater() {
        VirtualRewrite x = new VirtualRewrite();
        x.mapping(2, 0, 0, 0, 0, 1);
        x.row(2, 1, 1, 1);
        Check.due("triples()", x.triples(), 1);
    }

    @Sentence(promise = FIVE, says = "BAD", edge = "no such table")
    private static void badTable() {
        badAt(0);
    }

    @Sentence(promise = FIVE, says = "BAD", edge = "no such predicate")
    private static void badPredicate() {
        badAt(1);
    }

    @Sentence(promise = FIVE, says = "BAD", edge = "no such template of the subject")
    private static void badSubject() {
        badAt(2);
    }

    @Sentence(promise = FIVE, says = "BAD", edge = "no such column of the subject")
    private static void badColumn() {
        badAt(3);
    }

    @Sentence(promise = FIVE, says = "BAD", edge = "no such template of the object")
    private static void badObject() {
        badAt(4);
    }

    @Sentence(promise = FIVE, says = "BAD", edge = "no such column of the object")
    private static void badOther() {
        badAt(5);
    }

    @Sentence(promise = FIVE, says = "BAD", edge = "it leaves the mappings as they were")
    private static void badAddsNothing() {
        VirtualRewrite x = Samples.oneAnswer();
        x.mapping(0, 0, 3, 0, 4, 3);
        x.mapping(0, 0, 3, 0, 6, 1);
        x.mapping(4, 0, 3, 0, 4, 1);
        Check.due("triples()", x.triples(), 1);
        Check.due("unions()", x.unions(), 1);
        Check.due("union(0, 0)", x.union(0, 0), 0);
        Check.due("run()", x.run(), 1);
        Check.due("the next one's number", x.mapping(0, 0, 0, 0, 0, 0), 1);
    }

    @Sentence(promise = FIVE, says = "FULL", edge = "the thirteenth, not the twelfth")
    private static void fullAfterTwelve() {
        VirtualRewrite x = withMappings(11);
        Check.due("mapping 11", x.mapping(0, 0, 0, 0, 0, 1), 11);
        Check.due("mapping 12", x.mapping(0, 0, 0, 0, 0, 1), FULL);
        Check.due("mapping of another table and predicate", x.mapping(3, 7, 5, 2, 5, 2), FULL);
    }

    @Sentence(promise = FIVE, says = "FULL", edge = "it leaves the mappings as they were")
    private static void fullAddsNothing() {
        VirtualRewrite x = withMappings(12);
        x.row(0, 1, 2, 3);
        x.mapping(0, 0, 1, 0, 0, 1);
        Check.due("triples()", x.triples(), 1);
        x.atom(0, -1, -2);
        Check.due("unions()", x.unions(), 12);
        Check.due("run()", x.run(), 1);
        Check.due("found(0, 0)", x.found(0, 0), 12);
    }

    @Sentence(promise = FIVE, says = "FULL", edge = "clear() makes no room, as mappings stay")
    private static void clearMakesNoRoom() {
        VirtualRewrite x = withMappings(12);
        x.atom(0, -1, -2);
        x.clear();
        Check.due("mapping 12", x.mapping(0, 0, 0, 0, 0, 1), FULL);
    }

    @Sentence(promise = FIVE, says = "BAD; FULL", edge = "BAD where FULL would be due too")
    private static void badComesFirst() {
        VirtualRewrite x = withMappings(12);
        for (int at = 0; at < 6; at++) {
            int[] told = new int[6];
            told[at] = LIMITS[at];
            Check.due("mapping with " + told[at] + " at " + at, mapping(x, told), BAD);
        }
    }
}
