/** Promise 13: run. */
public final class RunTest {
    private static final String THIRTEEN = "13: run";
    private static final String FINDS = "for all ways to give a row of the table to each slot";
    private static final String SORTED =
            "sorted by the codes of variables that the question's atoms have, the least variable first";
    private static final String MORE = "When there would be more than 300: TOO LARGE";
    private static final int BAD = VirtualRewrite.BAD;
    private static final int LARGE = VirtualRewrite.LARGE;

    public static void main(String[] args) {
        Sentences.run(RunTest.class);
    }

    /** The answers are these, by the codes of these variables. */
    private static void answers(VirtualRewrite x, int[] variables, int[][] due) {
        Check.due("run()", x.run(), due.length);
        for (int i = 0; i < due.length; i++) {
            for (int j = 0; j < variables.length; j++) {
                Check.due("value(" + i + ", " + variables[j] + ")", x.value(i, variables[j]), due[i][j]);
            }
        }
        Check.due("value behind the last", x.value(due.length, variables[0]), BAD);
    }

    /** Table 0 has rows by first, table 1 rows by second, all with 7 in column 1: first times second answers. */
    private static VirtualRewrite product(int first, int second) {
        VirtualRewrite x = new VirtualRewrite();
        int[] counts = {first, second};
        for (int table = 0; table < 2; table++) {
            for (int i = 0; i < counts[table]; i++) {
                x.row(table, i, 7, 7);
            }
            x.mapping(table, table, 0, 0, 0, 1);
        }
        x.atom(0, -1, -2);
        x.atom(1, -3, -2);
        return x;
    }

    private static VirtualRewrite steps() {
        VirtualRewrite x = new VirtualRewrite();
        x.row(0, 1, 2, 0);
        x.row(0, 2, 3, 0);
        x.row(0, 3, 1, 0);
        x.row(0, 1, 4, 0);
        x.mapping(0, 0, 0, 0, 0, 1);
        return x;
    }

    @Sentence(promise = THIRTEEN, says = "How many answers", edge = "two atoms that share a variable")
    private static void twoSteps() {
        VirtualRewrite x = steps();
        x.atom(0, -1, -2);
        x.atom(0, -2, -3);
        answers(x, new int[] {0, 1, 2}, new int[][] {{1, 2, 3}, {2, 3, 1}, {3, 1, 2}, {3, 1, 4}});
    }

    @Sentence(promise = THIRTEEN, says = "How many answers", edge = "four atoms, round and with a code")
    private static void round() {
        VirtualRewrite x = steps();
        x.atom(0, -1, -2);
        x.atom(0, -2, -3);
        x.atom(0, -3, -1);
        answers(x, new int[] {0, 1, 2}, new int[][] {{1, 2, 3}, {2, 3, 1}, {3, 1, 2}});
        x.atom(0, -1, 4);
        answers(x, new int[] {0, 1, 2}, new int[][] {{1, 2, 3}});
    }

    @Sentence(promise = THIRTEEN, says = "How many answers", edge = "all six variables")
    private static void sixVariables() {
        VirtualRewrite x = new VirtualRewrite();
        x.row(0, 1, 2, 3);
        x.row(0, 4, 5, 6);
        x.mapping(0, 0, 0, 0, 1, 1);
        x.mapping(0, 1, 2, 2, 3, 0);
        x.atom(0, -6, -5);
        x.atom(1, -4, -3);
        x.atom(0, -2, -1);
        x.span(1, 4, 4);
        answers(x, new int[] {0, 1, 2, 3, 4, 5}, new int[][] {
            {10005, 4, 30001, 20003, 10002, 1}, {10005, 4, 30001, 20003, 10005, 4},
            {10005, 4, 30004, 20006, 10002, 1}, {10005, 4, 30004, 20006, 10005, 4}});
    }

    @Sentence(promise = THIRTEEN, says = "How many answers", edge = "none of an empty table")
    private static void noneOfEmptyTable() {
        VirtualRewrite x = product(20, 0);
        Check.due("run()", x.run(), 0);
        Check.due("value(0, 0)", x.value(0, 0), BAD);
    }

    @Sentence(promise = THIRTEEN, says = "How many answers", edge = "none without unions")
    private static void noneWithoutUnions() {
        VirtualRewrite x = new VirtualRewrite();
        x.row(0, 1, 2, 3);
        x.atom(0, -1, -2);
        Check.due("run() without mapping", x.run(), 0);
        x.mapping(0, 0, 1, 0, 2, 1);
        x.atom(0, -2, -1);
        Check.due("run() with all dropped", x.run(), 0);
    }

    @Sentence(promise = THIRTEEN, says = "How many answers", edge = "one, without terms, of a question without variables")
    private static void questionWithoutVariables() {
        VirtualRewrite x = new VirtualRewrite();
        x.row(0, 1, 2, 3);
        x.row(0, 1, 2, 4);
        x.row(0, 5, 6, 7);
        x.mapping(0, 0, 0, 0, 0, 1);
        x.mapping(0, 0, 0, 0, 0, 1);
        x.atom(0, 1, 2);
        Check.due("run()", x.run(), 1);
        Check.due("found(0, 0)", x.found(0, 0), 2);
        x.atom(0, 5, 6);
        Check.due("run() of two atoms", x.run(), 1);
        x.atom(0, 1, 6);
        Check.due("run() of a triple that is not there", x.run(), 0);
    }

    @Sentence(promise = THIRTEEN, says = "each place with a code has its number", edge = "subject and object")
    private static void codesAtPlaces() {
        VirtualRewrite x = new VirtualRewrite();
        x.row(0, 1, 2, 3);
        x.row(0, 4, 2, 3);
        x.mapping(0, 0, 3, 0, 4, 1);
        x.atom(0, 30001, -1);
        answers(x, new int[] {0}, new int[][] {{40002}});
        x.clear();
        x.atom(0, -1, 40002);
        answers(x, new int[] {0}, new int[][] {{30001}, {30004}});
        x.clear();
        x.atom(0, -1, 40001);
        Check.due("run() of another number", x.run(), 0);
        x.clear();
        x.atom(0, -1, 30002);
        Check.due("run() of another template", x.run(), 0);
    }

    @Sentence(promise = THIRTEEN, says = "each place with a code has its number", edge = "the numbers 0 and 9999")
    private static void codesAtTheEnds() {
        VirtualRewrite x = new VirtualRewrite();
        x.row(0, 0, 9999, 0);
        x.row(0, 9999, 0, 0);
        x.mapping(0, 0, 0, 0, 5, 1);
        x.atom(0, 0, -1);
        answers(x, new int[] {0}, new int[][] {{59999}});
        x.clear();
        x.atom(0, -1, 50000);
        answers(x, new int[] {0}, new int[][] {{9999}});
    }

    @Sentence(promise = THIRTEEN, says = "each variable has one number everywhere", edge = "both places of one atom")
    private static void variableTwiceInOneAtom() {
        VirtualRewrite x = new VirtualRewrite();
        x.row(0, 1, 1, 2);
        x.row(0, 2, 1, 2);
        x.row(0, 3, 4, 2);
        x.mapping(0, 0, 0, 0, 0, 1);
        x.atom(0, -1, -1);
        answers(x, new int[] {0}, new int[][] {{1}});
        x.key(0, 0, true);
        answers(x, new int[] {0}, new int[][] {{1}});
    }

    @Sentence(promise = THIRTEEN, says = "each variable has one number everywhere", edge = "atoms that share a slot, in another column")
    private static void variableTwiceInOneSlot() {
        VirtualRewrite x = new VirtualRewrite();
        x.row(0, 1, 5, 5);
        x.row(0, 2, 5, 6);
        x.key(0, 0, true);
        x.mapping(0, 0, 0, 0, 0, 1);
        x.mapping(0, 1, 0, 0, 0, 2);
        x.atom(0, -1, -2);
        x.atom(1, -1, -2);
        answers(x, new int[] {0, 1}, new int[][] {{1, 5}});
    }

    @Sentence(promise = THIRTEEN, says = FINDS, edge = "a key does not change the answers")
    private static void keyChangesNoAnswer() {
        VirtualRewrite x = new VirtualRewrite();
        for (int i = 0; i < 5; i++) {
            x.row(0, i, i % 2, 9 - i);
        }
        x.mapping(0, 0, 0, 0, 0, 1);
        x.mapping(0, 1, 0, 0, 0, 2);
        x.atom(0, -1, -2);
        x.atom(1, -1, -3);
        int[][] due = {{0, 0, 9}, {1, 1, 8}, {2, 0, 7}, {3, 1, 6}, {4, 0, 5}};
        answers(x, new int[] {0, 1, 2}, due);
        x.key(0, 0, true);
        answers(x, new int[] {0, 1, 2}, due);
    }

    @Sentence(promise = THIRTEEN, says = FINDS, edge = "parts that share no variable, one of which never meets")
    private static void partsThatDoNotMeet() {
        VirtualRewrite x = new VirtualRewrite();
        for (int i = 0; i < 20; i++) {
            x.row(0, i, 7, 7);
            x.row(1, i, 100 + i, 7);
        }
        x.mapping(0, 0, 0, 0, 0, 1);
        x.mapping(1, 1, 0, 0, 0, 1);
        x.atom(0, -1, -2);
        x.atom(0, -3, -2);
        x.atom(1, -4, -5);
        x.atom(1, -5, -6);
        Check.due("run()", x.run(), 0);
        x.row(2, 119, 9000, 0);
        x.mapping(2, 1, 0, 0, 0, 1);
        x.span(0, 4, 4);
        Check.due("run() that meets in one way", x.run(), 20);
        Check.due("found(0, 1)", x.found(0, 1), 1);
    }

    @Sentence(promise = THIRTEEN, says = FINDS, edge = "parts that share no variable, told by turns")
    private static void partsByTurns() {
        VirtualRewrite x = new VirtualRewrite();
        for (int i = 0; i < 20; i++) {
            x.row(0, i, 7, 7);
        }
        x.row(1, 19, 119, 7);
        x.row(1, 119, 9000, 0);
        x.mapping(0, 0, 0, 0, 0, 1);
        x.mapping(1, 1, 0, 0, 0, 1);
        x.atom(0, -1, -2);
        x.atom(1, -4, -5);
        x.atom(0, -3, -2);
        x.atom(1, -5, -6);
        Check.due("run()", x.run(), LARGE);
        x.span(0, 4, 5);
        x.span(2, 5, 6);
        answers(x, new int[] {0, 1, 2, 3, 4, 5}, new int[][] {
            {4, 7, 5, 19, 119, 9000}, {4, 7, 6, 19, 119, 9000}, {5, 7, 5, 19, 119, 9000}, {5, 7, 6, 19, 119, 9000}});
    }

    @Sentence(promise = THIRTEEN, says = FINDS, edge = "only the second row of a table meets, which is seen two slots later")
    private static void oneChoiceOfManyMeets() {
        VirtualRewrite x = new VirtualRewrite();
        x.row(0, 1, 5, 0);
        x.row(1, 1, 10, 0);
        x.row(1, 1, 11, 0);
        for (int i = 0; i < 3; i++) {
            x.row(2, 1, 20 + i, 0);
            x.row(3, 50 + i, 60 + i, 0);
        }
        x.row(3, 11, 20, 0);
        for (int i = 0; i < 4; i++) {
            x.mapping(i, i, 0, 0, 0, 1);
        }
        for (int turn = 0; turn < 6; turn++) {
            int[] told = new int[4];
            for (int i = 0; i < 4; i++) {
                told[i] = -1 - (i + turn) % 6;
            }
            x.clear();
            x.atom(0, told[0], told[1]);
            x.atom(1, told[0], told[2]);
            x.atom(2, told[0], told[3]);
            x.atom(3, told[2], told[3]);
            answers(x, new int[] {-1 - told[0], -1 - told[1], -1 - told[2], -1 - told[3]}, new int[][] {{1, 5, 11, 20}});
        }
    }

    @Sentence(promise = THIRTEEN, says = "THE ANSWERS are all different rows that unions find", edge = "rows of a table that are alike")
    private static void rowsAlikeCountOnce() {
        VirtualRewrite x = new VirtualRewrite();
        for (int i = 0; i < 20; i++) {
            x.row(0, i % 2, 5, i);
        }
        x.mapping(0, 0, 0, 0, 0, 1);
        for (int i = 0; i < 4; i++) {
            x.atom(0, -1 - i, -5);
        }
        Check.due("run()", x.run(), 16);
        for (int i = 0; i < 16; i++) {
            Check.due("value(" + i + ", 3)", x.value(i, 3), i % 2);
            Check.due("value(" + i + ", 0)", x.value(i, 0), i / 8);
        }
    }

    @Sentence(promise = THIRTEEN, says = "THE ANSWERS are all different rows that unions find", edge = "two unions that find the same")
    private static void unionsAlikeCountOnce() {
        VirtualRewrite x = Samples.answers(10);
        x.mapping(0, 0, 1, 0, 2, 1);
        Check.due("unions()", x.unions(), 2);
        Check.due("run()", x.run(), 10);
    }

    @Sentence(promise = THIRTEEN, says = "THE ANSWERS are all different rows that unions find", edge = "the same numbers with other templates are different")
    private static void templatesMakeThemDifferent() {
        VirtualRewrite x = Samples.answers(10);
        x.mapping(0, 0, 1, 0, 3, 1);
        Check.due("run()", x.run(), 20);
    }

    @Sentence(promise = THIRTEEN, says = SORTED, edge = "the least variable stands at the object")
    private static void sortedByLeastVariable() {
        VirtualRewrite x = new VirtualRewrite();
        x.row(0, 5, 9, 1);
        x.row(0, 5, 8, 2);
        x.row(0, 4, 9, 3);
        x.row(0, 9999, 0, 4);
        x.mapping(0, 0, 1, 0, 0, 1);
        x.mapping(0, 0, 0, 0, 5, 1);
        x.atom(0, -6, -2);
        answers(x, new int[] {1, 5}, new int[][] {
            {0, 19999}, {8, 10005}, {9, 10004}, {9, 10005},
            {50000, 9999}, {50008, 5}, {50009, 4}, {50009, 5}});
    }

    @Sentence(promise = THIRTEEN, says = SORTED, edge = "by the code, not by the number")
    private static void sortedByCode() {
        VirtualRewrite x = new VirtualRewrite();
        x.row(0, 9999, 0, 1);
        x.mapping(0, 0, 0, 0, 0, 2);
        x.mapping(0, 0, 1, 1, 0, 2);
        x.atom(0, -1, -2);
        answers(x, new int[] {0}, new int[][] {{9999}, {10000}});
    }

    @Sentence(promise = THIRTEEN, says = SORTED, edge = "not as rows and unions come")
    private static void sortedAgainstTheirOrder() {
        VirtualRewrite x = new VirtualRewrite();
        for (int i = 19; i >= 0; i--) {
            x.row(0, i, 0, 0);
        }
        x.mapping(0, 0, 1, 0, 0, 1);
        x.mapping(0, 0, 0, 0, 0, 1);
        x.atom(0, -1, -2);
        Check.due("run()", x.run(), 40);
        for (int i = 0; i < 40; i++) {
            Check.due("value(" + i + ", 0)", x.value(i, 0), i < 20 ? i : 10000 + i - 20);
            Check.due("found(" + i + ", 1)", x.found(i, 1), i < 20 ? 1 : 0);
        }
    }

    @Sentence(promise = THIRTEEN, says = MORE, edge = "300 of one union are not")
    private static void exactly300() {
        VirtualRewrite x = Samples.answers301();
        x.drop(0, 18);
        Check.due("run()", x.run(), 300);
        Check.due("value(299, 0)", x.value(299, 0), 17);
        Check.due("value(300, 0)", x.value(300, 0), BAD);
    }

    @Sentence(promise = THIRTEEN, says = MORE, edge = "301 of one union are")
    private static void exactly301() {
        VirtualRewrite x = Samples.answers301();
        Check.due("run()", x.run(), LARGE);
    }

    @Sentence(promise = THIRTEEN, says = MORE, edge = "301 of several unions are, 300 are not")
    private static void exactly301OfSeveralUnions() {
        VirtualRewrite x = product(20, 15);
        Check.due("run() of one union", x.run(), 300);
        x.row(2, 77, 8, 7);
        x.mapping(2, 0, 0, 0, 0, 1);
        Check.due("run() of two unions, one of which finds nothing", x.run(), 300);
        x.row(3, 55, 8, 7);
        x.mapping(3, 1, 0, 0, 0, 1);
        Check.due("unions()", x.unions(), 4);
        Check.due("run() with one answer more", x.run(), LARGE);
        x.drop(3, 0);
        Check.due("run() without it", x.run(), 300);
    }

    @Sentence(promise = THIRTEEN, says = MORE, edge = "300 that many unions find are not")
    private static void exactly300OfManyUnions() {
        VirtualRewrite x = product(20, 15);
        for (int i = 0; i < 5; i++) {
            x.mapping(0, 0, 0, 0, 0, 1);
            x.mapping(1, 1, 0, 0, 0, 1);
        }
        Check.due("unions()", x.unions(), 36);
        Check.due("run()", x.run(), 300);
        Check.due("found(0, 0)", x.found(0, 0), 36);
        Check.due("found(299, 0)", x.found(299, 0), 36);
    }

    @Sentence(promise = THIRTEEN, says = MORE, edge = "the most: 160000 ways")
    private static void theMost() {
        VirtualRewrite x = new VirtualRewrite();
        for (int i = 0; i < 20; i++) {
            x.row(0, i, 7, 7);
        }
        x.mapping(0, 0, 0, 0, 0, 1);
        for (int i = 0; i < 4; i++) {
            x.atom(0, -1 - i, -5);
        }
        Check.due("run()", x.run(), LARGE);
        for (int i = 0; i < 4; i++) {
            x.span(i, 3, 6);
        }
        Check.due("run() with spans", x.run(), 256);
    }

    @Sentence(promise = THIRTEEN, says = "LARGE", edge = "a span brings it back")
    private static void spanBringsItBack() {
        VirtualRewrite x = product(20, 20);
        Check.due("run()", x.run(), LARGE);
        x.span(2, 0, 14);
        Check.due("run() with a span", x.run(), 300);
    }

    @Sentence(promise = THIRTEEN, says = "BAD without atoms", edge = "a new object, also with mappings and spans")
    private static void badWithoutAtoms() {
        VirtualRewrite x = new VirtualRewrite();
        Check.due("run() of a new object", x.run(), BAD);
        x.row(0, 1, 2, 3);
        x.mapping(0, 0, 0, 0, 0, 1);
        x.span(0, 0, 9);
        Check.due("run() with row, mapping and span", x.run(), BAD);
        x.atom(0, -1, -2);
        Check.due("run() with an atom", x.run(), 1);
        x.clear();
        Check.due("run() after clear()", x.run(), BAD);
    }

    @Sentence(promise = THIRTEEN, says = "LARGE (also of unions)", edge = "150 unions are not")
    private static void exactly150Unions() {
        VirtualRewrite x = Samples.unions150();
        Check.due("run()", x.run(), 1);
        Check.due("found(0, 0)", x.found(0, 0), 150);
    }

    @Sentence(promise = THIRTEEN, says = "LARGE (also of unions)", edge = "151 unions are, though they find one answer or none")
    private static void exactly151Unions() {
        VirtualRewrite x = Samples.unions151();
        Check.due("run() with a row", x.run(), LARGE);
        x.drop(0, 0);
        Check.due("run() without rows", x.run(), LARGE);
    }

    @Sentence(promise = THIRTEEN, says = "How many answers", edge = "variables stand in other atoms than in the run() before")
    private static void variablesOfTheRunBefore() {
        VirtualRewrite x = new VirtualRewrite();
        x.row(0, 1, 2, 0);
        x.row(1, 3, 4, 0);
        x.mapping(0, 0, 0, 0, 0, 1);
        x.mapping(1, 1, 0, 0, 0, 1);
        x.atom(0, -3, -4);
        x.atom(1, -1, -2);
        answers(x, new int[] {0, 1, 2, 3}, new int[][] {{3, 4, 1, 2}});
        x.clear();
        x.atom(0, -1, -2);
        x.atom(1, -3, -4);
        answers(x, new int[] {0, 1, 2, 3}, new int[][] {{1, 2, 3, 4}});
        x.clear();
        x.atom(1, -4, -3);
        x.atom(0, -2, -6);
        answers(x, new int[] {1, 2, 3, 5}, new int[][] {{1, 4, 3, 2}});
    }

    @Sentence(promise = THIRTEEN, says = "How many answers", edge = "asked again, and after a row and a mapping came")
    private static void askedAgain() {
        VirtualRewrite x = Samples.answers(10);
        Check.due("run()", x.run(), 10);
        Check.due("run() again", x.run(), 10);
        x.row(0, 500, 500, 500);
        Check.due("run() with a row more", x.run(), 11);
        x.mapping(0, 0, 3, 0, 3, 1);
        Check.due("run() with a mapping more", x.run(), 22);
        x.drop(0, 0);
        Check.due("run() with a row less", x.run(), 20);
    }
}
