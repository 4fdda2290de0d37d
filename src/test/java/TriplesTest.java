/** Promise 6: triples. */
public final class TriplesTest {
    private static final String SIX = "6: triples";
    private static final String SAYS = "How many different triples there are";

    public static void main(String[] args) {
        Sentences.run(TriplesTest.class);
    }

    @Sentence(promise = SIX, says = SAYS, edge = "none without mappings")
    private static void noneWithoutMappings() {
        VirtualRewrite x = Samples.withRows(0, 20);
        Check.due("triples()", x.triples(), 0);
    }

    @Sentence(promise = SIX, says = SAYS, edge = "none without rows")
    private static void noneWithoutRows() {
        VirtualRewrite x = new VirtualRewrite();
        for (int i = 0; i < 12; i++) {
            x.mapping(i % 4, i % 8, 0, 0, 0, 0);
        }
        Check.due("triples()", x.triples(), 0);
    }

    @Sentence(promise = SIX, says = SAYS, edge = "none of rows of a table without mapping")
    private static void noneOfOtherTables() {
        VirtualRewrite x = Samples.withRows(1, 5);
        x.mapping(0, 0, 0, 0, 0, 0);
        x.mapping(2, 0, 0, 0, 0, 0);
        Check.due("triples()", x.triples(), 0);
    }

    @Sentence(promise = SIX, says = SAYS, edge = "one of twenty rows that are alike where the mapping looks")
    private static void oneOfRowsAlike() {
        VirtualRewrite x = new VirtualRewrite();
        for (int i = 0; i < 20; i++) {
            x.row(0, 5, i, 6);
        }
        x.mapping(0, 0, 1, 0, 2, 2);
        Check.due("triples()", x.triples(), 1);
    }

    @Sentence(promise = SIX, says = SAYS, edge = "one of twelve mappings that are alike")
    private static void oneOfMappingsAlike() {
        VirtualRewrite x = new VirtualRewrite();
        x.row(0, 1, 2, 3);
        for (int i = 0; i < 12; i++) {
            x.mapping(0, 7, 5, 0, 5, 1);
        }
        Check.due("triples()", x.triples(), 1);
    }

    @Sentence(promise = SIX, says = SAYS, edge = "one by mappings of other tables and columns")
    private static void oneOfTwoTables() {
        VirtualRewrite x = new VirtualRewrite();
        x.row(0, 1, 2, 3);
        x.row(3, 9, 2, 1);
        x.mapping(0, 0, 4, 0, 4, 1);
        x.mapping(3, 0, 4, 2, 4, 1);
        Check.due("triples()", x.triples(), 1);
    }

    @Sentence(promise = SIX, says = SAYS, edge = "another predicate")
    private static void differentByPredicate() {
        VirtualRewrite x = new VirtualRewrite();
        x.row(0, 1, 2, 3);
        for (int predicate = 0; predicate < 8; predicate++) {
            x.mapping(0, predicate, 0, 0, 0, 1);
            Check.due("triples()", x.triples(), predicate + 1);
        }
    }

    @Sentence(promise = SIX, says = SAYS, edge = "another template of the subject or of the object")
    private static void differentByTemplate() {
        VirtualRewrite x = new VirtualRewrite();
        x.row(0, 1, 1, 1);
        for (int template = 0; template < 6; template++) {
            x.mapping(0, 0, template, 0, 0, 0);
        }
        Check.due("triples() of subjects", x.triples(), 6);
        for (int template = 0; template < 6; template++) {
            x.mapping(0, 0, 0, 0, template, 0);
        }
        Check.due("triples() of objects too", x.triples(), 11);
    }

    @Sentence(promise = SIX, says = SAYS, edge = "another number of the subject or of the object")
    private static void differentByNumber() {
        VirtualRewrite x = new VirtualRewrite();
        x.mapping(0, 0, 0, 0, 0, 1);
        x.row(0, 1, 1, 0);
        x.row(0, 1, 2, 0);
        Check.due("triples() of objects", x.triples(), 2);
        x.row(0, 2, 2, 0);
        Check.due("triples() of subjects too", x.triples(), 3);
    }

    @Sentence(promise = SIX, says = SAYS, edge = "subject and object changed")
    private static void differentByDirection() {
        VirtualRewrite x = new VirtualRewrite();
        x.row(0, 1, 2, 3);
        x.mapping(0, 0, 0, 0, 0, 1);
        x.mapping(0, 0, 0, 1, 0, 0);
        Check.due("triples()", x.triples(), 2);
    }

    @Sentence(promise = SIX, says = SAYS, edge = "the least and the greatest codes do not run into each other")
    private static void codesAtTheEnds() {
        VirtualRewrite x = new VirtualRewrite();
        x.row(0, 0, 9999, 1);
        x.mapping(0, 0, 0, 0, 5, 1);
        x.mapping(0, 0, 0, 2, 0, 0);
        x.mapping(0, 0, 5, 1, 5, 1);
        x.mapping(0, 1, 0, 0, 0, 0);
        x.mapping(0, 7, 5, 1, 5, 1);
        Check.due("triples()", x.triples(), 5);
    }

    @Sentence(promise = SIX, says = SAYS, edge = "template and number do not run into each other")
    private static void templateAndNumberAreApart() {
        VirtualRewrite x = new VirtualRewrite();
        x.row(0, 0, 1, 7);
        x.mapping(0, 0, 1, 0, 0, 2);
        x.mapping(0, 0, 0, 1, 0, 2);
        Check.due("triples() of subjects", x.triples(), 2);
        x.mapping(0, 1, 0, 2, 1, 0);
        x.mapping(0, 1, 0, 2, 0, 1);
        Check.due("triples() of objects too", x.triples(), 4);
    }

    /** 3600000000 times 1 and 60000 times 11582 and 47296 is 2 to the 32nd. */
    @Sentence(promise = SIX, says = SAYS, edge = "no wrap-around of an int makes two of them one")
    private static void noWrapAround() {
        VirtualRewrite x = new VirtualRewrite();
        x.row(0, 0, 0, 0);
        x.row(1, 1582, 7296, 0);
        x.mapping(0, 0, 0, 0, 0, 1);
        x.mapping(1, 1, 1, 0, 4, 1);
        Check.due("triples()", x.triples(), 2);
    }

    @Sentence(promise = SIX, says = SAYS, edge = "the most: twelve mappings of twenty rows")
    private static void atMost() {
        VirtualRewrite x = new VirtualRewrite();
        for (int i = 0; i < 20; i++) {
            x.row(0, 9999 - i, i, 500);
        }
        for (int i = 0; i < 12; i++) {
            x.mapping(0, i % 6, i / 6, 0, 5, 1);
        }
        Check.due("triples()", x.triples(), 240);
        Check.due("triples() again", x.triples(), 240);
    }

    @Sentence(promise = SIX, says = SAYS, edge = "one goes with the last row that makes it")
    private static void goesWithItsLastRow() {
        VirtualRewrite x = new VirtualRewrite();
        x.mapping(2, 3, 4, 1, 5, 1);
        x.row(2, 0, 9999, 0);
        x.row(2, 0, 0, 0);
        x.row(2, 5, 0, 5);
        Check.due("triples() of three rows", x.triples(), 2);
        x.drop(2, 1);
        Check.due("triples() of two rows", x.triples(), 2);
        x.drop(2, 1);
        Check.due("triples() of one row", x.triples(), 1);
        x.drop(2, 0);
        Check.due("triples() of none", x.triples(), 0);
    }

    @Sentence(promise = SIX, says = SAYS, edge = "the question and its spans do not matter")
    private static void questionDoesNotMatter() {
        VirtualRewrite x = Samples.answers(5);
        x.span(0, 2, 2);
        x.run();
        Check.due("triples()", x.triples(), 5);
        x.clear();
        Check.due("triples() after clear()", x.triples(), 5);
    }
}
