/** Promise 4: drop. */
public final class DropTest {
    private static final String FOUR = "4: drop";
    private static final int BAD = VirtualRewrite.BAD;

    public static void main(String[] args) {
        Sentences.run(DropTest.class);
    }

    /** The rows' numbers, which Samples.answers gives to variable 0. */
    private static void left(VirtualRewrite x, int... numbers) {
        Check.due("run()", x.run(), numbers.length);
        for (int i = 0; i < numbers.length; i++) {
            Check.due("value(" + i + ", 0)", x.value(i, 0), 10000 + numbers[i]);
            Check.due("value(" + i + ", 1)", x.value(i, 1), 20100 + numbers[i]);
        }
    }

    @Sentence(promise = FOUR, says = "Row i of a table goes", edge = "the first")
    private static void firstGoes() {
        VirtualRewrite x = Samples.answers(4);
        Check.due("drop(0, 0)", x.drop(0, 0), 3);
        left(x, 1, 2, 3);
    }

    @Sentence(promise = FOUR, says = "Row i of a table goes", edge = "one in the middle")
    private static void middleGoes() {
        VirtualRewrite x = Samples.answers(4);
        Check.due("drop(0, 2)", x.drop(0, 2), 3);
        left(x, 0, 1, 3);
    }

    @Sentence(promise = FOUR, says = "Row i of a table goes", edge = "the last")
    private static void lastGoes() {
        VirtualRewrite x = Samples.answers(4);
        Check.due("drop(0, 3)", x.drop(0, 3), 3);
        left(x, 0, 1, 2);
    }

    @Sentence(promise = FOUR, says = "Row i of a table goes", edge = "the first and the last of twenty")
    private static void endsOfFullTableGo() {
        VirtualRewrite x = Samples.answers(20);
        Check.due("drop(0, 19)", x.drop(0, 19), 19);
        Check.due("drop(0, 0)", x.drop(0, 0), 18);
        left(x, 1, 2, 3, 4, 5, 6, 7, 8, 9, 10, 11, 12, 13, 14, 15, 16, 17, 18);
    }

    @Sentence(promise = FOUR, says = "Row i of a table goes", edge = "one of two that are alike stays")
    private static void oneOfTwoAlikeStays() {
        VirtualRewrite x = Samples.oneAnswer();
        x.row(0, 1, 2, 3);
        Check.due("drop(0, 0)", x.drop(0, 0), 1);
        Check.due("run()", x.run(), 1);
        Check.due("drop(0, 0) again", x.drop(0, 0), 0);
        Check.due("run() again", x.run(), 0);
    }

    @Sentence(promise = FOUR, says = "(those behind it come one nearer)", edge = "the same i twice")
    private static void thoseBehindComeNearer() {
        VirtualRewrite x = Samples.answers(4);
        x.drop(0, 1);
        Check.due("drop(0, 1) again", x.drop(0, 1), 2);
        left(x, 0, 3);
    }

    @Sentence(promise = FOUR, says = "(those behind it come one nearer)", edge = "a new row stands behind them")
    private static void newRowStandsLast() {
        VirtualRewrite x = Samples.answers(3);
        x.drop(0, 0);
        x.row(0, 9, 109, 7);
        Check.due("drop(0, 2)", x.drop(0, 2), 2);
        left(x, 1, 2);
    }

    @Sentence(promise = FOUR, says = "how many are left", edge = "from twenty to none")
    private static void countsDownToNone() {
        VirtualRewrite x = Samples.withRows(3, 20);
        for (int due = 19; due >= 0; due--) {
            Check.due("drop(3, 0)", x.drop(3, 0), due);
        }
        Check.due("drop(3, 0) of none", x.drop(3, 0), BAD);
    }

    @Sentence(promise = FOUR, says = "Row i of a table goes", edge = "other tables keep theirs")
    private static void otherTablesKeepRows() {
        VirtualRewrite x = new VirtualRewrite();
        for (int table = 0; table < 4; table++) {
            x.row(table, 1, 1, 1);
            x.row(table, 2, 2, 2);
        }
        x.drop(1, 0);
        for (int table = 0; table < 4; table++) {
            Check.due("drop(" + table + ", 0)", x.drop(table, 0), table == 1 ? 0 : 1);
        }
    }

    @Sentence(promise = FOUR, says = "BAD", edge = "no such table")
    private static void badTable() {
        VirtualRewrite x = new VirtualRewrite();
        for (int table = 0; table < 4; table++) {
            x.row(table, 1, 1, 1);
        }
        for (int table : Samples.outside(4)) {
            Check.due("drop(" + table + ", 0)", x.drop(table, 0), BAD);
        }
    }

    @Sentence(promise = FOUR, says = "BAD", edge = "no such row of a table with three")
    private static void badRow() {
        VirtualRewrite x = Samples.withRows(2, 3);
        for (int i : Samples.outside(3)) {
            Check.due("drop(2, " + i + ")", x.drop(2, i), BAD);
        }
        Check.due("drop(2, 2)", x.drop(2, 2), 2);
    }

    @Sentence(promise = FOUR, says = "BAD", edge = "no such row of a full table")
    private static void badRowOfFullTable() {
        VirtualRewrite x = Samples.withRows(2, 20);
        for (int i : Samples.outside(20)) {
            Check.due("drop(2, " + i + ")", x.drop(2, i), BAD);
        }
        Check.due("drop(2, 19)", x.drop(2, 19), 19);
    }

    @Sentence(promise = FOUR, says = "BAD", edge = "a row's number after the last one has gone")
    private static void badRowThatWent() {
        VirtualRewrite x = Samples.withRows(0, 3);
        x.drop(0, 0);
        Check.due("drop(0, 2)", x.drop(0, 2), BAD);
        Check.due("drop(0, 1)", x.drop(0, 1), 1);
    }

    @Sentence(promise = FOUR, says = "BAD", edge = "it leaves the rows as they were")
    private static void badDropsNothing() {
        VirtualRewrite x = Samples.answers(3);
        for (int w : Samples.outside(4)) {
            x.drop(0, w);
            x.drop(w, 0);
            x.drop(w, w);
        }
        left(x, 0, 1, 2);
        Check.due("row", x.row(0, 3, 103, 7), 4);
    }
}
