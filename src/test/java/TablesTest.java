/** Promises 2 to 4: key, row, drop. */
public final class TablesTest {
    private static final int BAD = VirtualRewrite.BAD;
    private static final int FULL = VirtualRewrite.FULL;
    private static final int NO = VirtualRewrite.NO;
    private static final int[] ENDS = {Integer.MIN_VALUE, -1, Integer.MAX_VALUE};

    public static void main(String[] args) {
        keyComesAndGoes();
        keyOfRepeatedNumbers();
        keyWrong();
        rowOrdinary();
        rowOfKeys();
        rowFull();
        rowWrong();
        dropMovesRows();
        dropWrong();
        Check.end();
    }

    private static void keyComesAndGoes() {
        VirtualRewrite x = new VirtualRewrite();
        for (int table = 0; table < 4; table++) {
            for (int column = 0; column < 3; column++) {
                Check.due("key none to none", x.key(table, column, false), 0);
                Check.due("key none to key", x.key(table, column, true), 1);
                Check.due("key key to key", x.key(table, column, true), 0);
                Check.due("key key to none", x.key(table, column, false), 1);
                Check.due("key none again", x.key(table, column, false), 0);
            }
        }
    }

    private static void keyOfRepeatedNumbers() {
        VirtualRewrite x = new VirtualRewrite();
        x.row(3, 1, 5, 9);
        x.row(3, 2, 6, 8);
        x.row(3, 3, 5, 7);
        Check.due("key of different numbers", x.key(3, 0, true), 1);
        Check.due("key of first and last alike", x.key(3, 1, true), NO);
        Check.due("no key and stays none", x.key(3, 1, false), 0);
        Check.due("NO left no key", x.row(3, 4, 6, 1), 4);
        Check.due("key still NO", x.key(3, 1, true), NO);
        x.drop(3, 3);
        x.drop(3, 0);
        Check.due("key once the rows are gone", x.key(3, 1, true), 1);
        Check.due("numbers of a dropped row do not count", x.row(3, 1, 7, 9), 3);
        Check.due("other tables have no key", x.row(2, 1, 1, 1) + x.row(2, 1, 1, 1), 3);
        Check.due("number in another column does not count", x.key(3, 2, true), 1);
    }

    private static void keyWrong() {
        VirtualRewrite x = new VirtualRewrite();
        for (int end : ENDS) {
            Check.due("key(" + end + ", 0)", x.key(end, 0, true), BAD);
            Check.due("key(0, " + end + ")", x.key(0, end, true), BAD);
            Check.due("key(" + end + ", 0) none", x.key(end, 0, false), BAD);
        }
        Check.due("key(4, 2)", x.key(4, 2, true), BAD);
        Check.due("key(3, 3)", x.key(3, 3, true), BAD);
    }

    private static void rowOrdinary() {
        VirtualRewrite x = new VirtualRewrite();
        Check.due("row 1", x.row(1, 0, 9999, 0), 1);
        Check.due("row alike", x.row(1, 0, 9999, 0), 2);
        Check.due("row of another table", x.row(2, 9999, 0, 9999), 1);
    }

    private static void rowOfKeys() {
        VirtualRewrite x = new VirtualRewrite();
        x.row(0, 1, 2, 3);
        for (int column = 0; column < 3; column++) {
            x.key(0, column, true);
        }
        Check.due("key 0 is there", x.row(0, 1, 9, 9), NO);
        Check.due("key 1 is there", x.row(0, 9, 2, 9), NO);
        Check.due("key 2 is there", x.row(0, 9, 9, 3), NO);
        Check.due("the same numbers in other columns", x.row(0, 2, 3, 1), 2);
        Check.due("BAD before NO", x.row(0, 1, 10000, 3), BAD);
        x.key(0, 0, false);
        Check.due("no key any more", x.row(0, 1, 9, 9), 3);
        x.drop(0, 0);
        Check.due("the number went with its row", x.row(0, 7, 7, 3), 3);
    }

    private static void rowFull() {
        VirtualRewrite x = new VirtualRewrite();
        for (int i = 0; i < 20; i++) {
            Check.due("row " + i, x.row(0, i, i, i), i + 1);
        }
        Check.due("row 21", x.row(0, 50, 50, 50), FULL);
        Check.due("BAD before FULL", x.row(0, -1, 50, 50), BAD);
        x.key(0, 1, true);
        Check.due("NO before FULL", x.row(0, 50, 19, 50), NO);
        Check.due("FULL with a key", x.row(0, 50, 50, 50), FULL);
        Check.due("another table is not full", x.row(1, 0, 0, 0), 1);
        Check.due("drop of the last", x.drop(0, 19), 19);
        Check.due("room again", x.row(0, 50, 50, 50), 20);
    }

    private static void rowWrong() {
        VirtualRewrite x = new VirtualRewrite();
        int[] wrong = {Integer.MIN_VALUE, -1, 10000, Integer.MAX_VALUE};
        for (int w : wrong) {
            Check.due("row table " + w, x.row(w, 0, 0, 0), BAD);
            Check.due("row a " + w, x.row(0, w, 0, 0), BAD);
            Check.due("row b " + w, x.row(0, 0, w, 0), BAD);
            Check.due("row c " + w, x.row(0, 0, 0, w), BAD);
        }
        Check.due("row(4)", x.row(4, 0, 0, 0), BAD);
        Check.due("BAD left no row", x.row(0, 0, 0, 0), 1);
    }

    private static void dropMovesRows() {
        VirtualRewrite x = new VirtualRewrite();
        for (int i = 0; i < 4; i++) {
            x.row(1, i, 10 + i, 20 + i);
        }
        x.row(0, 7, 7, 7);
        x.mapping(1, 0, 0, 0, 1, 2);
        x.atom(0, -1, -2);
        Check.due("drop(1, 1)", x.drop(1, 1), 3);
        Check.due("drop moved 2 to 1", x.drop(1, 1), 2);
        Check.due("run()", x.run(), 2);
        Check.due("left: first", x.value(0, 0), 0);
        Check.due("left: first's object", x.value(0, 1), 10020);
        Check.due("left: last", x.value(1, 0), 3);
        Check.due("left: last's object", x.value(1, 1), 10023);
        Check.due("drop(1, 2)", x.drop(1, 2), BAD);
        Check.due("drop of the first", x.drop(1, 0), 1);
        Check.due("run() after", x.run(), 1);
        Check.due("the last came to the first place", x.value(0, 0), 3);
        Check.due("drop of the only one", x.drop(1, 0), 0);
        Check.due("drop of none", x.drop(1, 0), BAD);
        Check.due("other tables keep their rows", x.drop(0, 0), 0);
    }

    private static void dropWrong() {
        VirtualRewrite x = new VirtualRewrite();
        x.row(0, 1, 1, 1);
        for (int end : ENDS) {
            Check.due("drop(" + end + ", 0)", x.drop(end, 0), BAD);
            Check.due("drop(0, " + end + ")", x.drop(0, end), BAD);
        }
        Check.due("drop(4, 0)", x.drop(4, 0), BAD);
        Check.due("drop(0, 1)", x.drop(0, 1), BAD);
    }
}
