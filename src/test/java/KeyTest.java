/** Promise 2: key. */
public final class KeyTest {
    private static final String TWO = "2: key";
    private static final int BAD = VirtualRewrite.BAD;
    private static final int NO = VirtualRewrite.NO;

    public static void main(String[] args) {
        Sentences.run(KeyTest.class);
    }

    @Sentence(promise = TWO, says = "A column is a key from now on, or is none: 1", edge = "each column of each table")
    private static void eachColumnComesAndGoes() {
        VirtualRewrite x = new VirtualRewrite();
        for (int table = 0; table < 4; table++) {
            for (int column = 0; column < 3; column++) {
                String of = "(" + table + ", " + column + ", ";
                Check.due("key" + of + "true)", x.key(table, column, true), 1);
                Check.due("key" + of + "false)", x.key(table, column, false), 1);
                Check.due("key" + of + "true) again", x.key(table, column, true), 1);
            }
        }
    }

    @Sentence(promise = TWO, says = "A column is a key from now on", edge = "this column of this table alone")
    private static void otherColumnsStayNone() {
        VirtualRewrite x = new VirtualRewrite();
        x.key(1, 1, true);
        for (int table = 0; table < 4; table++) {
            for (int column = 0; column < 3; column++) {
                int due = table == 1 && column == 1 ? 1 : 0;
                Check.due("key(" + table + ", " + column + ", false)", x.key(table, column, false), due);
            }
        }
    }

    @Sentence(promise = TWO, says = "A column is a key from now on", edge = "later rows are looked at")
    private static void keyRefusesLaterRows() {
        VirtualRewrite x = new VirtualRewrite();
        x.row(0, 1, 2, 3);
        Check.due("row before", x.row(0, 4, 2, 6), 2);
        x.key(0, 0, true);
        Check.due("row after", x.row(0, 4, 7, 8), NO);
    }

    @Sentence(promise = TWO, says = "or is none", edge = "later rows may repeat its numbers")
    private static void noneTakesRepeatedNumbers() {
        VirtualRewrite x = new VirtualRewrite();
        x.key(2, 2, true);
        x.row(2, 1, 1, 1);
        x.key(2, 2, false);
        Check.due("row alike", x.row(2, 1, 1, 1), 2);
        Check.due("key now", x.key(2, 2, true), NO);
    }

    @Sentence(promise = TWO, says = "0 if it was so", edge = "a key already")
    private static void keyAlready() {
        VirtualRewrite x = new VirtualRewrite();
        x.key(3, 2, true);
        Check.due("key(3, 2, true)", x.key(3, 2, true), 0);
        x.row(3, 1, 1, 1);
        Check.due("it stays a key", x.row(3, 2, 2, 1), NO);
    }

    @Sentence(promise = TWO, says = "0 if it was so", edge = "none already")
    private static void noneAlready() {
        VirtualRewrite x = new VirtualRewrite();
        x.row(3, 1, 1, 1);
        Check.due("key(3, 2, false)", x.key(3, 2, false), 0);
        Check.due("it stays none", x.row(3, 1, 1, 1), 2);
    }

    @Sentence(promise = TWO, says = "0 if it was so", edge = "none already, though rows have the same number in it")
    private static void noneAlreadyWithRepeatedNumbers() {
        VirtualRewrite x = new VirtualRewrite();
        x.row(0, 5, 5, 5);
        x.row(0, 5, 5, 5);
        Check.due("key(0, 1, false)", x.key(0, 1, false), 0);
    }

    @Sentence(promise = TWO, says = "BAD", edge = "no such table")
    private static void badTable() {
        VirtualRewrite x = new VirtualRewrite();
        for (int table : Samples.outside(4)) {
            Check.due("key(" + table + ", 0, true)", x.key(table, 0, true), BAD);
            Check.due("key(" + table + ", 2, false)", x.key(table, 2, false), BAD);
        }
    }

    @Sentence(promise = TWO, says = "BAD", edge = "no such column")
    private static void badColumn() {
        VirtualRewrite x = new VirtualRewrite();
        for (int column : Samples.outside(3)) {
            Check.due("key(0, " + column + ", true)", x.key(0, column, true), BAD);
            Check.due("key(3, " + column + ", false)", x.key(3, column, false), BAD);
        }
    }

    @Sentence(promise = TWO, says = "BAD", edge = "it leaves all columns as they were")
    private static void badChangesNothing() {
        VirtualRewrite x = new VirtualRewrite();
        for (int w : Samples.outside(4)) {
            x.key(w, 0, true);
            x.key(w, w, true);
        }
        for (int w : Samples.outside(3)) {
            x.key(0, w, true);
            x.key(3, w, true);
        }
        for (int table = 0; table < 4; table++) {
            for (int column = 0; column < 3; column++) {
                Check.due("key(" + table + ", " + column + ", false)", x.key(table, column, false), 0);
            }
        }
    }

    @Sentence(promise = TWO, says = "NO when rows have the same number in it", edge = "two rows")
    private static void noOfTwoRows() {
        VirtualRewrite x = new VirtualRewrite();
        x.row(0, 0, 1, 2);
        x.row(0, 0, 3, 4);
        Check.due("key of the number 0 twice", x.key(0, 0, true), NO);
        Check.due("key of 1 and 3", x.key(0, 1, true), 1);
        Check.due("key of 2 and 4", x.key(0, 2, true), 1);
    }

    @Sentence(promise = TWO, says = "NO when rows have the same number in it", edge = "the first and the last of twenty")
    private static void noOfFirstAndLast() {
        VirtualRewrite x = Samples.withRows(1, 19);
        x.row(1, 0, 100, 100);
        Check.due("key of column 0", x.key(1, 0, true), NO);
        Check.due("key of column 1", x.key(1, 1, true), 1);
    }

    @Sentence(promise = TWO, says = "NO when rows have the same number in it", edge = "the last two of twenty")
    private static void noOfLastTwo() {
        VirtualRewrite x = Samples.withRows(1, 19);
        x.row(1, 100, 100, 18);
        Check.due("key of column 2", x.key(1, 2, true), NO);
        Check.due("key of column 1", x.key(1, 1, true), 1);
    }

    @Sentence(promise = TWO, says = "NO when rows have the same number in it", edge = "no, one or twenty different rows are no hindrance")
    private static void keyOfDifferentRows() {
        Check.due("of no row", new VirtualRewrite().key(0, 0, true), 1);
        Check.due("of one row with 0", Samples.withRows(0, 1).key(0, 0, true), 1);
        Check.due("of twenty rows", Samples.withRows(0, 20).key(0, 0, true), 1);
    }

    @Sentence(promise = TWO, says = "NO when rows have the same number in it", edge = "in another column or table it does not count")
    private static void sameNumberElsewhere() {
        VirtualRewrite x = new VirtualRewrite();
        x.row(0, 7, 8, 8);
        x.row(0, 8, 7, 8);
        x.row(1, 7, 7, 7);
        x.row(1, 7, 7, 7);
        Check.due("key(0, 0)", x.key(0, 0, true), 1);
        Check.due("key(0, 1)", x.key(0, 1, true), 1);
        Check.due("key(0, 2)", x.key(0, 2, true), NO);
    }

    @Sentence(promise = TWO, says = "NO when rows have the same number in it", edge = "of a row that went it does not count")
    private static void numberOfDroppedRow() {
        VirtualRewrite x = new VirtualRewrite();
        x.row(0, 1, 5, 1);
        x.row(0, 2, 6, 2);
        x.row(0, 3, 5, 3);
        Check.due("with it", x.key(0, 1, true), NO);
        x.drop(0, 2);
        Check.due("without it", x.key(0, 1, true), 1);
    }

    @Sentence(promise = TWO, says = "NO when rows have the same number in it", edge = "it leaves the column none")
    private static void noLeavesNone() {
        VirtualRewrite x = new VirtualRewrite();
        x.row(0, 1, 5, 1);
        x.row(0, 2, 5, 2);
        x.key(0, 1, true);
        Check.due("a row with its number", x.row(0, 3, 5, 3), 3);
        Check.due("still NO", x.key(0, 1, true), NO);
        Check.due("it is none", x.key(0, 1, false), 0);
    }

    @Sentence(promise = TWO, says = "A column is a key from now on", edge = "it stays one when all rows have gone")
    private static void keyStaysWithoutRows() {
        VirtualRewrite x = new VirtualRewrite();
        x.row(0, 4, 4, 4);
        x.key(0, 0, true);
        x.drop(0, 0);
        x.clear();
        Check.due("row", x.row(0, 4, 4, 4), 1);
        Check.due("row alike", x.row(0, 4, 5, 5), NO);
        Check.due("key", x.key(0, 0, true), 0);
    }
}
