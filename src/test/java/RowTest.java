/** Promise 3: row. */
public final class RowTest {
    private static final String THREE = "3: row";
    private static final int BAD = VirtualRewrite.BAD;
    private static final int FULL = VirtualRewrite.FULL;
    private static final int NO = VirtualRewrite.NO;

    public static void main(String[] args) {
        Sentences.run(RowTest.class);
    }

    /** Told with a number at one column, and numbers that no other row has at the others. */
    private static int rowWith(VirtualRewrite x, int column, int number, int other) {
        return x.row(0, column == 0 ? number : other, column == 1 ? number : other, column == 2 ? number : other);
    }

    @Sentence(promise = THREE, says = "A row more: how many the table has", edge = "each table by itself, up to twenty")
    private static void countsUpToTwenty() {
        VirtualRewrite x = new VirtualRewrite();
        for (int i = 1; i <= 20; i++) {
            for (int table = 0; table < 4; table++) {
                Check.due("row " + i + " of table " + table, x.row(table, i, i, i), i);
            }
        }
    }

    @Sentence(promise = THREE, says = "A row more: how many the table has", edge = "a row that is there already is one more")
    private static void rowsAlikeAreTwo() {
        VirtualRewrite x = new VirtualRewrite();
        x.row(2, 1, 2, 3);
        Check.due("row alike", x.row(2, 1, 2, 3), 2);
    }

    @Sentence(promise = THREE, says = "numbers 0 .. 9999", edge = "the least and the greatest in each column")
    private static void leastAndGreatestNumbers() {
        VirtualRewrite x = new VirtualRewrite();
        Check.due("row(3, 0, 0, 0)", x.row(3, 0, 0, 0), 1);
        Check.due("row(3, 9999, 9999, 9999)", x.row(3, 9999, 9999, 9999), 2);
        x.mapping(3, 0, 0, 0, 0, 1);
        x.mapping(3, 1, 0, 2, 0, 2);
        x.atom(0, -1, -2);
        x.atom(1, -3, -3);
        x.atom(1, 9999, -3);
        Check.due("run()", x.run(), 2);
        Check.due("column 0", x.value(1, 0), 9999);
        Check.due("column 1", x.value(1, 1), 9999);
        Check.due("column 2", x.value(1, 2), 9999);
        Check.due("column 0 of the other", x.value(0, 0), 0);
    }

    @Sentence(promise = THREE, says = "BAD", edge = "no such table")
    private static void badTable() {
        VirtualRewrite x = new VirtualRewrite();
        for (int table : Samples.outside(4)) {
            Check.due("row(" + table + ", 0, 0, 0)", x.row(table, 0, 0, 0), BAD);
        }
    }

    @Sentence(promise = THREE, says = "BAD", edge = "no number in column 0")
    private static void badFirstNumber() {
        VirtualRewrite x = new VirtualRewrite();
        for (int w : Samples.outside(10000)) {
            Check.due("row(0, " + w + ", 0, 0)", x.row(0, w, 0, 0), BAD);
        }
    }

    @Sentence(promise = THREE, says = "BAD", edge = "no number in column 1")
    private static void badSecondNumber() {
        VirtualRewrite x = new VirtualRewrite();
        for (int w : Samples.outside(10000)) {
            Check.due("row(0, 0, " + w + ", 0)", x.row(0, 0, w, 0), BAD);
        }
    }

    @Sentence(promise = THREE, says = "BAD", edge = "no number in column 2")
    private static void badThirdNumber() {
        VirtualRewrite x = new VirtualRewrite();
        for (int w : Samples.outside(10000)) {
            Check.due("row(0, 0, 0, " + w + ")", x.row(0, 0, 0, w), BAD);
        }
    }

    @Sentence(promise = THREE, says = "BAD", edge = "it leaves the tables as they were")
    private static void badAddsNoRow() {
        VirtualRewrite x = new VirtualRewrite();
        for (int w : Samples.outside(10000)) {
            x.row(0, w, 0, 0);
            x.row(0, 0, w, 0);
            x.row(0, 0, 0, w);
            x.row(w, 0, 0, 0);
        }
        for (int table = 0; table < 4; table++) {
            Check.due("row(" + table + ", 0, 0, 0)", x.row(table, 0, 0, 0), 1);
        }
    }

    @Sentence(promise = THREE, says = "BAD; NO when a key's number is there; FULL", edge = "BAD where NO and FULL would be due too")
    private static void badComesFirst() {
        VirtualRewrite x = Samples.withRows(0, 20);
        x.key(0, 0, true);
        Check.due("row(0, 5, 10000, 5)", x.row(0, 5, 10000, 5), BAD);
        Check.due("row(0, 50, -1, 50)", x.row(0, 50, -1, 50), BAD);
    }

    @Sentence(promise = THREE, says = "NO when a key's number is there", edge = "each column alone")
    private static void noOfEachColumn() {
        for (int column = 0; column < 3; column++) {
            VirtualRewrite x = Samples.withRows(0, 3);
            x.key(0, column, true);
            for (int i = 0; i < 3; i++) {
                Check.due("number " + i + " in column " + column, rowWith(x, column, i, 50), NO);
            }
            Check.due("number 3 in column " + column, rowWith(x, column, 3, 1), 4);
        }
    }

    @Sentence(promise = THREE, says = "NO when a key's number is there", edge = "three keys, one of which is there")
    private static void noOfOneOfThreeKeys() {
        for (int column = 0; column < 3; column++) {
            VirtualRewrite x = new VirtualRewrite();
            x.row(0, 9999, 9999, 9999);
            for (int i = 0; i < 3; i++) {
                x.key(0, i, true);
            }
            Check.due("9999 in column " + column, rowWith(x, column, 9999, 5), NO);
        }
    }

    @Sentence(promise = THREE, says = "NO when a key's number is there", edge = "the last of 19 rows has it")
    private static void noOfLastRow() {
        VirtualRewrite x = Samples.withRows(0, 19);
        x.key(0, 1, true);
        Check.due("row(0, 50, 18, 50)", x.row(0, 50, 18, 50), NO);
        Check.due("row(0, 50, 19, 50)", x.row(0, 50, 19, 50), 20);
    }

    @Sentence(promise = THREE, says = "NO when a key's number is there", edge = "in a column that is no key it does not count")
    private static void numberInOtherColumn() {
        VirtualRewrite x = new VirtualRewrite();
        x.row(0, 1, 2, 3);
        x.key(0, 0, true);
        Check.due("row(0, 2, 2, 3)", x.row(0, 2, 2, 3), 2);
        Check.due("row(0, 3, 1, 1)", x.row(0, 3, 1, 1), 3);
    }

    @Sentence(promise = THREE, says = "NO when a key's number is there", edge = "in another table it does not count")
    private static void numberInOtherTable() {
        VirtualRewrite x = new VirtualRewrite();
        x.key(0, 0, true);
        x.key(1, 0, true);
        x.row(0, 1, 2, 3);
        Check.due("row(1, 1, 2, 3)", x.row(1, 1, 2, 3), 1);
        Check.due("row(2, 1, 2, 3)", x.row(2, 1, 2, 3), 1);
    }

    @Sentence(promise = THREE, says = "NO when a key's number is there", edge = "the number 0 is not there in an empty table")
    private static void zeroInEmptyTable() {
        VirtualRewrite x = new VirtualRewrite();
        x.key(0, 0, true);
        Check.due("row(0, 0, 0, 0)", x.row(0, 0, 0, 0), 1);
        Check.due("row(0, 0, 1, 1)", x.row(0, 0, 1, 1), NO);
    }

    @Sentence(promise = THREE, says = "NO when a key's number is there", edge = "a number that went with its row is not there")
    private static void numberOfDroppedRow() {
        VirtualRewrite x = Samples.withRows(0, 3);
        x.key(0, 0, true);
        x.drop(0, 2);
        Check.due("row(0, 2, 9, 9) of the last one", x.row(0, 2, 9, 9), 3);
        x.drop(0, 0);
        Check.due("row(0, 0, 9, 9) of the first one", x.row(0, 0, 9, 9), 3);
        Check.due("row(0, 1, 9, 9) of one that stays", x.row(0, 1, 9, 9), NO);
    }

    @Sentence(promise = THREE, says = "NO when a key's number is there", edge = "it leaves the table as it was")
    private static void noAddsNoRow() {
        VirtualRewrite x = new VirtualRewrite();
        x.mapping(0, 0, 0, 1, 0, 2);
        x.row(0, 1, 2, 3);
        x.key(0, 0, true);
        x.row(0, 1, 8, 9);
        Check.due("triples()", x.triples(), 1);
        Check.due("drop(0, 1)", x.drop(0, 1), BAD);
        Check.due("a number of the refused row is not there", x.key(0, 1, true) + x.row(0, 5, 8, 9), 3);
    }

    @Sentence(promise = THREE, says = "FULL", edge = "the twenty-first row of each table")
    private static void fullAfterTwenty() {
        for (int table = 0; table < 4; table++) {
            VirtualRewrite x = Samples.withRows(table, 19);
            Check.due("row 20 of table " + table, x.row(table, 50, 50, 50), 20);
            Check.due("row 21 of table " + table, x.row(table, 51, 51, 51), FULL);
        }
    }

    @Sentence(promise = THREE, says = "FULL", edge = "it leaves the table as it was")
    private static void fullAddsNoRow() {
        VirtualRewrite x = Samples.withRows(0, 20);
        x.mapping(0, 0, 0, 0, 0, 1);
        x.row(0, 500, 500, 500);
        Check.due("triples()", x.triples(), 20);
        Check.due("drop(0, 20)", x.drop(0, 20), BAD);
        Check.due("drop(0, 19)", x.drop(0, 19), 19);
        x.atom(0, 500, -1);
        Check.due("run()", x.run(), 0);
    }

    @Sentence(promise = THREE, says = "FULL", edge = "other tables have room")
    private static void otherTablesHaveRoom() {
        VirtualRewrite x = Samples.withRows(1, 20);
        Check.due("row(0, 1, 1, 1)", x.row(0, 1, 1, 1), 1);
        Check.due("row(2, 1, 1, 1)", x.row(2, 1, 1, 1), 1);
        Check.due("row(1, 1, 1, 1)", x.row(1, 1, 1, 1), FULL);
    }

    @Sentence(promise = THREE, says = "FULL", edge = "there is room again when a row goes")
    private static void roomAfterDrop() {
        VirtualRewrite x = Samples.withRows(0, 20);
        x.row(0, 50, 50, 50);
        x.drop(0, 7);
        Check.due("row 20 again", x.row(0, 50, 50, 50), 20);
        Check.due("row 21 again", x.row(0, 51, 51, 51), FULL);
    }

    @Sentence(promise = THREE, says = "BAD; NO when a key's number is there; FULL", edge = "NO in a full table, as NO stands first")
    private static void noComesBeforeFull() {
        VirtualRewrite x = Samples.withRows(0, 20);
        x.key(0, 1, true);
        Check.due("row(0, 50, 19, 50)", x.row(0, 50, 19, 50), NO);
        Check.due("row(0, 50, 50, 50)", x.row(0, 50, 50, 50), FULL);
    }
}
