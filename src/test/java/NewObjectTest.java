/** Promise 1: a new object. */
public final class NewObjectTest {
    private static final String ONE = "1: A new object";
    private static final int BAD = VirtualRewrite.BAD;

    public static void main(String[] args) {
        Sentences.run(NewObjectTest.class);
    }

    @Sentence(promise = ONE, says = "Empty tables", edge = "no row can go")
    private static void tablesHaveNoRowToDrop() {
        VirtualRewrite x = new VirtualRewrite();
        for (int table = 0; table < 4; table++) {
            Check.due("drop(" + table + ", 0)", x.drop(table, 0), BAD);
        }
    }

    @Sentence(promise = ONE, says = "Empty tables", edge = "the first row is the only one")
    private static void firstRowIsOne() {
        VirtualRewrite x = new VirtualRewrite();
        for (int table = 0; table < 4; table++) {
            Check.due("row(" + table + ", 0, 0, 0)", x.row(table, 0, 0, 0), 1);
        }
    }

    @Sentence(promise = ONE, says = "Empty tables", edge = "no triple of any table")
    private static void mappingsOfEmptyTablesMakeNothing() {
        VirtualRewrite x = new VirtualRewrite();
        for (int table = 0; table < 4; table++) {
            x.mapping(table, 0, 0, 0, 0, 0);
        }
        Check.due("triples()", x.triples(), 0);
    }

    @Sentence(promise = ONE, says = "without keys", edge = "each column is none already")
    private static void noColumnIsKey() {
        VirtualRewrite x = new VirtualRewrite();
        for (int table = 0; table < 4; table++) {
            for (int column = 0; column < 3; column++) {
                Check.due("key(" + table + ", " + column + ", false)", x.key(table, column, false), 0);
            }
        }
    }

    @Sentence(promise = ONE, says = "without keys", edge = "the same row twice in each table")
    private static void rowsMayBeAlike() {
        VirtualRewrite x = new VirtualRewrite();
        for (int table = 0; table < 4; table++) {
            x.row(table, 0, 0, 0);
            Check.due("row(" + table + ", 0, 0, 0) again", x.row(table, 0, 0, 0), 2);
        }
    }

    @Sentence(promise = ONE, says = "no mappings", edge = "rows make no triple")
    private static void rowsMakeNoTriple() {
        VirtualRewrite x = Samples.withRows(0, 20);
        Check.due("triples()", x.triples(), 0);
    }

    @Sentence(promise = ONE, says = "no mappings", edge = "the first one has number 0")
    private static void firstMappingIsZero() {
        Check.due("mapping", new VirtualRewrite().mapping(0, 0, 0, 0, 0, 0), 0);
    }

    @Sentence(promise = ONE, says = "no mappings", edge = "no predicate has a union")
    private static void noPredicateHasMapping() {
        VirtualRewrite x = new VirtualRewrite();
        for (int predicate = 0; predicate < 8; predicate++) {
            x.clear();
            x.atom(predicate, -1, -2);
            Check.due("unions() of predicate " + predicate, x.unions(), 0);
        }
    }

    @Sentence(promise = ONE, says = "no atoms", edge = "clear() finds none")
    private static void clearFindsNoAtom() {
        Check.due("clear()", new VirtualRewrite().clear(), 0);
    }

    @Sentence(promise = ONE, says = "no atoms", edge = "the first one is the only one")
    private static void firstAtomIsOne() {
        Check.due("atom(0, 0, 0)", new VirtualRewrite().atom(0, 0, 0), 1);
    }

    @Sentence(promise = ONE, says = "no atoms", edge = "what asks the question answers BAD")
    private static void questionIsNotThere() {
        VirtualRewrite x = new VirtualRewrite();
        Check.due("unions()", x.unions(), BAD);
        Check.due("union(0, 8)", x.union(0, 8), BAD);
        Check.due("estimate(0)", x.estimate(0), BAD);
        Check.due("run()", x.run(), BAD);
    }

    @Sentence(promise = ONE, says = "no atoms", edge = "nor spans: four have room")
    private static void fourSpansHaveRoom() {
        VirtualRewrite x = new VirtualRewrite();
        for (int i = 1; i <= 4; i++) {
            Check.due("span " + i, x.span(0, 0, 0), i);
        }
    }

    @Sentence(promise = ONE, says = "no atoms", edge = "nor answers, before any run()")
    private static void noAnswers() {
        VirtualRewrite x = new VirtualRewrite();
        for (int variable = 0; variable < 6; variable++) {
            Check.due("value(0, " + variable + ")", x.value(0, variable), BAD);
        }
        Check.due("found(0, 0)", x.found(0, 0), BAD);
        Check.due("found(0, 1)", x.found(0, 1), BAD);
    }

    @Sentence(promise = ONE, says = "Empty tables without keys, no mappings, no atoms.", edge = "whatever another object has")
    private static void objectsAreApart() {
        VirtualRewrite x = Samples.oneAnswer();
        x.key(0, 0, true);
        x.span(0, 1, 1);
        x.run();
        VirtualRewrite y = new VirtualRewrite();
        Check.due("y.drop(0, 0)", y.drop(0, 0), BAD);
        Check.due("y.key(0, 0, false)", y.key(0, 0, false), 0);
        Check.due("y.triples()", y.triples(), 0);
        Check.due("y.unions()", y.unions(), BAD);
        Check.due("y.found(0, 0)", y.found(0, 0), BAD);
        Check.due("y.mapping", y.mapping(0, 0, 0, 0, 0, 0), 0);
        Check.due("y.span", y.span(0, 0, 0), 1);
        Check.due("x.value(0, 0)", x.value(0, 0), 10001);
    }
}
