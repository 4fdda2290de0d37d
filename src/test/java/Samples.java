/** Objects that tests begin with, and ints that are no table, number and so on. */
final class Samples {
    private static final int LEAST = Integer.MIN_VALUE;
    private static final int GREATEST = Integer.MAX_VALUE;

    private Samples() {
    }

    /** Ints outside 0 .. limit - 1: the nearest ones, the least and the greatest. */
    static int[] outside(int limit) {
        return new int[] {LEAST, LEAST + 1, -2, -1, limit, limit + 1, GREATEST - 1, GREATEST};
    }

    /** Row i has i in each column. */
    static VirtualRewrite withRows(int table, int count) {
        VirtualRewrite x = new VirtualRewrite();
        for (int i = 0; i < count; i++) {
            x.row(table, i, i, i);
        }
        return x;
    }

    /** One row, one mapping of predicate 0 and a question of one atom with variables 0 and 1. */
    static VirtualRewrite oneAnswer() {
        VirtualRewrite x = new VirtualRewrite();
        x.row(0, 1, 2, 3);
        x.mapping(0, 0, 1, 0, 2, 1);
        x.atom(0, -1, -2);
        return x;
    }

    /** So many rows, of column 0 and 1, that one atom asks for: row i has i and 100 + i. */
    static VirtualRewrite answers(int count) {
        VirtualRewrite x = new VirtualRewrite();
        for (int i = 0; i < count; i++) {
            x.row(0, i, 100 + i, 7);
        }
        x.mapping(0, 0, 1, 0, 2, 1);
        x.atom(0, -1, -2);
        return x;
    }

    /** 5 times 5 times 3 times 2 unions that are not dropped, by 11 mappings, one row in table 0. */
    static VirtualRewrite unions150() {
        VirtualRewrite x = new VirtualRewrite();
        int[] each = {5, 3, 2, 1};
        for (int predicate = 0; predicate < 4; predicate++) {
            for (int i = 0; i < each[predicate]; i++) {
                x.mapping(0, predicate, 0, 0, 0, 1);
            }
        }
        x.row(0, 1, 2, 3);
        x.atom(0, -1, -2);
        x.atom(0, -1, -2);
        x.atom(1, -1, -2);
        x.atom(2, -1, -2);
        return x;
    }

    /**
     * Of the template that variable 0 has: 3 times 3 times 3 times 5 unions by template 0, and 2
     * times 2 times 2 times 2 by template 1.
     */
    static VirtualRewrite unions151() {
        VirtualRewrite x = new VirtualRewrite();
        int[][] each = {{3, 2}, {5, 2}};
        for (int predicate = 0; predicate < 2; predicate++) {
            for (int template = 0; template < 2; template++) {
                for (int i = 0; i < each[predicate][template]; i++) {
                    x.mapping(0, predicate, template, 0, 2, 1);
                }
            }
        }
        x.row(0, 1, 2, 3);
        x.atom(0, -1, -2);
        x.atom(0, -1, -2);
        x.atom(0, -1, -2);
        x.atom(1, -1, -2);
        return x;
    }

    /**
     * One union of three slots: 6 times 6 times 8 answers where variable 1 is 7, and 13 where it is
     * 8, one for each of the last 13 rows of table 0.
     */
    static VirtualRewrite answers301() {
        VirtualRewrite x = new VirtualRewrite();
        int[][] each = {{6, 13}, {6, 1}, {8, 1}};
        for (int table = 0; table < 3; table++) {
            for (int i = 0; i < each[table][0] + each[table][1]; i++) {
                x.row(table, i, i < each[table][0] ? 7 : 8, 0);
            }
            x.mapping(table, table, 0, 0, 0, 1);
        }
        x.atom(0, -1, -2);
        x.atom(1, -3, -2);
        x.atom(2, -4, -2);
        return x;
    }
}
