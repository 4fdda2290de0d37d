/** Promises 13 to 15: run, value, found. */
public final class AnswersTest {
    private static final int BAD = VirtualRewrite.BAD;
    private static final int LARGE = VirtualRewrite.LARGE;

    public static void main(String[] args) {
        joins();
        sorted();
        noVariables();
        codesInPlaces();
        oneVariableTwice();
        answersOfTheLatestRun();
        runWithoutAtoms();
        mostAnswers();
        rowsAlikeCountOnce();
        findersAreCounted();
        partsThatDoNotMeet();
        oneChoiceOfManyMeets();
        wrong();
        Check.end();
    }

    private static void joins() {
        VirtualRewrite x = new VirtualRewrite();
        x.row(0, 1, 2, 0);
        x.row(0, 2, 3, 0);
        x.row(0, 3, 1, 0);
        x.row(0, 1, 4, 0);
        x.mapping(0, 0, 2, 0, 2, 1);
        x.atom(0, -1, -2);
        x.atom(0, -2, -3);
        Check.due("two steps", x.run(), 4);
        int[][] due = {{1, 2, 3}, {2, 3, 1}, {3, 1, 2}, {3, 1, 4}};
        for (int i = 0; i < due.length; i++) {
            for (int variable = 0; variable < 3; variable++) {
                Check.due("two steps: " + i + ", " + variable, x.value(i, variable), 20000 + due[i][variable]);
            }
        }
        x.atom(0, -3, -1);
        Check.due("round", x.run(), 3);
        x.atom(0, -1, 20004);
        Check.due("round, from 1", x.run(), 1);
        Check.due("round, from 1: variable 2", x.value(0, 2), 20003);
    }

    private static void sorted() {
        VirtualRewrite x = new VirtualRewrite();
        x.row(0, 5, 9, 1);
        x.row(0, 5, 8, 2);
        x.row(0, 4, 9, 3);
        x.row(0, 9999, 0, 4);
        x.mapping(0, 0, 1, 0, 0, 1);
        x.mapping(0, 0, 0, 0, 5, 1);
        x.atom(0, -6, -2);
        Check.due("run()", x.run(), 8);
        int[][] due = {
            {0, 19999}, {8, 10005}, {9, 10004}, {9, 10005},
            {50000, 9999}, {50008, 5}, {50009, 4}, {50009, 5}};
        for (int i = 0; i < due.length; i++) {
            Check.due("variable 1 of " + i, x.value(i, 1), due[i][0]);
            Check.due("variable 5 of " + i, x.value(i, 5), due[i][1]);
            Check.due("first finder of " + i, x.found(i, 1), i < 4 ? 0 : 1);
        }
        Check.dueThrow("variable 0", x, 0, 0);
        Check.dueThrow("variable 4", x, 7, 4);
    }

    private static void noVariables() {
        VirtualRewrite x = new VirtualRewrite();
        x.row(0, 1, 2, 3);
        x.row(0, 1, 2, 4);
        x.mapping(0, 0, 0, 0, 0, 1);
        x.mapping(0, 0, 0, 0, 0, 1);
        x.atom(0, 1, 2);
        Check.due("a row without terms", x.run(), 1);
        Check.due("found by both", x.found(0, 0), 2);
        Check.dueThrow("no variable at all", x, 0, 0);
        Check.dueThrow("no variable at all, the last", x, 0, 5);
        Check.due("no such variable", x.value(0, 6), BAD);
        x.atom(0, 1, 3);
        Check.due("no such triple", x.run(), 0);
        Check.due("no answer, no throw", x.value(0, 0), BAD);
    }

    private static void codesInPlaces() {
        VirtualRewrite x = new VirtualRewrite();
        x.row(0, 1, 2, 3);
        x.row(0, 4, 2, 3);
        x.mapping(0, 0, 3, 0, 4, 1);
        x.atom(0, 30001, -1);
        Check.due("subject's code", x.run(), 1);
        Check.due("subject's code: object", x.value(0, 0), 40002);
        x.clear();
        x.atom(0, -1, 40002);
        Check.due("object's code", x.run(), 2);
        x.clear();
        x.atom(0, -1, 40001);
        Check.due("another number", x.run(), 0);
        x.clear();
        x.atom(0, -1, 30002);
        Check.due("another template", x.run(), 0);
    }

    private static void oneVariableTwice() {
        VirtualRewrite x = new VirtualRewrite();
        x.row(0, 1, 1, 2);
        x.row(0, 2, 1, 2);
        x.row(0, 3, 4, 2);
        x.mapping(0, 0, 0, 0, 0, 1);
        x.mapping(0, 0, 0, 0, 1, 1);
        x.atom(0, -1, -1);
        Check.due("unions()", x.unions(), 1);
        Check.due("run()", x.run(), 1);
        Check.due("value(0, 0)", x.value(0, 0), 1);
        x.key(0, 0, true);
        Check.due("with a key", x.run(), 1);
    }

    private static void answersOfTheLatestRun() {
        VirtualRewrite x = new VirtualRewrite();
        x.row(0, 1, 2, 3);
        x.mapping(0, 0, 0, 0, 0, 1);
        x.atom(0, -1, -2);
        x.run();
        x.atom(0, -3, -3);
        x.span(0, 9, 9);
        x.row(0, 4, 5, 6);
        x.drop(0, 0);
        x.mapping(0, 0, 1, 0, 1, 1);
        x.unions();
        x.estimate(0);
        Check.due("as it was run", x.value(0, 0), 1);
        Check.dueThrow("a variable that came later", x, 0, 2);
        x.clear();
        Check.due("after clear()", x.value(0, 1), 2);
        Check.due("after clear(): found", x.found(0, 0), 1);
        x.atom(0, -3, 6);
        Check.due("run() finds nothing", x.run(), 0);
        Check.due("nothing of the run before", x.value(0, 0), BAD);
    }

    private static void runWithoutAtoms() {
        VirtualRewrite x = new VirtualRewrite();
        x.row(0, 1, 2, 3);
        x.mapping(0, 0, 0, 0, 0, 1);
        x.atom(0, -1, -2);
        Check.due("run()", x.run(), 1);
        x.clear();
        Check.due("run() without atoms", x.run(), BAD);
        Check.due("value after BAD", x.value(0, 0), BAD);
        Check.due("value after BAD, variable 5", x.value(0, 5), BAD);
        Check.due("found after BAD", x.found(0, 0), BAD);
    }

    private static void mostAnswers() {
        VirtualRewrite x = new VirtualRewrite();
        for (int i = 0; i < 20; i++) {
            x.row(0, i, 7, 7);
            if (i < 15) {
                x.row(1, i, 7, 7);
            }
        }
        x.mapping(0, 0, 0, 0, 0, 1);
        x.mapping(1, 1, 0, 0, 0, 1);
        x.atom(0, -1, -2);
        x.atom(1, -3, -2);
        Check.due("300 answers", x.run(), 300);
        Check.due("the last one", x.value(299, 0), 19);
        Check.due("the last one's last", x.value(299, 2), 14);
        Check.due("none behind it", x.value(300, 0), BAD);
        Check.due("none behind it: found", x.found(300, 0), BAD);
        x.row(1, 15, 7, 7);
        Check.due("320 answers", x.run(), LARGE);
        Check.due("no answer then", x.value(0, 0), BAD);
        Check.due("no answer then, no throw", x.value(0, 4), BAD);
        Check.due("no answer then: found", x.found(0, 1), BAD);
        x.drop(1, 15);
        Check.due("300 again", x.run(), 300);
        x.mapping(0, 0, 0, 0, 0, 1);
        Check.due("300 of two unions", x.run(), 300);
        Check.due("both found it", x.found(299, 0), 2);
        x.row(2, 77, 7, 7);
        x.mapping(2, 0, 0, 0, 0, 1);
        Check.due("too many by the last union", x.run(), LARGE);
        x.span(0, 20, 99);
        Check.due("few by a span", x.run(), 15);
        Check.due("the last union alone", x.found(0, 1), 2);
    }

    private static void rowsAlikeCountOnce() {
        VirtualRewrite x = new VirtualRewrite();
        for (int i = 0; i < 20; i++) {
            x.row(0, i % 2, 5, i);
        }
        x.mapping(0, 0, 0, 0, 0, 1);
        for (int i = 0; i < 4; i++) {
            x.atom(0, -1 - i, -5);
        }
        Check.due("two numbers at four places", x.run(), 16);
        for (int i = 0; i < 16; i++) {
            Check.due("found by one union", x.found(i, 0), 1);
            Check.due("value(" + i + ", 3)", x.value(i, 3), i % 2);
            Check.due("value(" + i + ", 0)", x.value(i, 0), i / 8);
        }
    }

    private static void findersAreCounted() {
        VirtualRewrite x = new VirtualRewrite();
        x.row(0, 1, 2, 3);
        x.row(0, 1, 2, 4);
        x.row(1, 1, 2, 3);
        x.row(1, 8, 9, 3);
        x.mapping(0, 0, 0, 0, 0, 1);
        x.mapping(1, 0, 0, 0, 0, 1);
        x.mapping(1, 0, 1, 0, 0, 1);
        x.mapping(0, 0, 0, 0, 0, 1);
        x.atom(0, -1, -2);
        Check.due("run()", x.run(), 4);
        int[][] due = {{3, 0}, {1, 1}, {1, 2}, {1, 2}};
        for (int i = 0; i < 4; i++) {
            Check.due("found(" + i + ", 0)", x.found(i, 0), due[i][0]);
            Check.due("found(" + i + ", 1)", x.found(i, 1), due[i][1]);
        }
        x.clear();
        x.atom(0, 10001, -1);
        Check.due("run() with dropped unions", x.run(), 1);
        Check.due("first counts only what is not dropped", x.found(0, 1), 0);
    }

    private static void partsThatDoNotMeet() {
        VirtualRewrite x = new VirtualRewrite();
        for (int i = 0; i < 20; i++) {
            x.row(0, i, 7, 7);
            x.row(1, i, 100 + i, 7);
        }
        x.mapping(0, 0, 0, 0, 0, 1);
        x.mapping(1, 1, 0, 0, 0, 1);
        x.atom(0, -1, -2);
        x.atom(0, -3, -2);
        x.atom(1, -4, -5);
        x.atom(1, -5, -6);
        Check.due("the second part never meets", x.run(), 0);
        x.row(2, 119, 9000, 0);
        x.mapping(2, 1, 0, 0, 0, 1);
        x.span(0, 4, 4);
        Check.due("it meets in one way", x.run(), 20);
        Check.due("by the second union", x.found(0, 1), 1);
        x.clear();
        x.atom(0, -1, -2);
        x.atom(1, -4, -5);
        x.atom(0, -3, -2);
        x.atom(1, -5, -6);
        Check.due("parts told by turns", x.run(), LARGE);
        x.span(0, 4, 5);
        x.span(2, 5, 6);
        Check.due("parts told by turns, few", x.run(), 4);
        Check.due("its last", x.value(3, 2), 6);
        Check.due("its last's end", x.value(3, 5), 9000);
    }

    /** Only the second row of table 1 meets, and that is seen two slots later. */
    private static void oneChoiceOfManyMeets() {
        VirtualRewrite x = new VirtualRewrite();
        x.row(0, 1, 5, 0);
        x.row(1, 1, 10, 0);
        x.row(1, 1, 11, 0);
        for (int i = 0; i < 3; i++) {
            x.row(2, 1, 20 + i, 0);
            x.row(3, 50 + i, 60 + i, 0);
        }
        x.row(3, 11, 20, 0);
        for (int i = 0; i < 4; i++) {
            x.mapping(i, i, 0, 0, 0, 1);
        }
        x.atom(0, -1, -2);
        x.atom(1, -1, -3);
        x.atom(2, -1, -4);
        x.atom(3, -3, -4);
        Check.due("one way", x.run(), 1);
        Check.due("one way: variable 2", x.value(0, 2), 11);
        Check.due("one way: variable 3", x.value(0, 3), 20);
    }

    private static void wrong() {
        VirtualRewrite x = new VirtualRewrite();
        x.row(0, 1, 2, 3);
        x.mapping(0, 0, 0, 0, 0, 1);
        x.atom(0, -1, -2);
        Check.due("value before run()", x.value(0, 3), BAD);
        Check.due("found before run()", x.found(0, 0), BAD);
        x.run();
        int[] numbers = {Integer.MIN_VALUE, -1, 1, Integer.MAX_VALUE};
        for (int w : numbers) {
            Check.due("value(" + w + ", 0)", x.value(w, 0), BAD);
            Check.due("value(" + w + ", 5)", x.value(w, 5), BAD);
            Check.due("found(" + w + ", 0)", x.found(w, 0), BAD);
            Check.due("found(" + w + ", 1)", x.found(w, 1), BAD);
        }
        int[] wrongs = {Integer.MIN_VALUE, -1, 6, Integer.MAX_VALUE};
        for (int w : wrongs) {
            Check.due("value(0, " + w + ")", x.value(0, w), BAD);
            Check.due("found(0, " + w + ")", x.found(0, w), BAD);
        }
        Check.due("found(0, 2)", x.found(0, 2), BAD);
        for (int variable = 2; variable < 6; variable++) {
            Check.dueThrow("value(0, " + variable + ")", x, 0, variable);
        }
    }
}
