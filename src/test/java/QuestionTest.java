/** Promises 7 to 9: atom, span, clear. */
public final class QuestionTest {
    private static final int BAD = VirtualRewrite.BAD;
    private static final int FULL = VirtualRewrite.FULL;

    public static void main(String[] args) {
        atomCounts();
        atomWrong();
        spanCounts();
        spanWrong();
        spansNarrow();
        spanEdges();
        clearing();
        Check.end();
    }

    private static void atomCounts() {
        VirtualRewrite x = new VirtualRewrite();
        Check.due("atom 1", x.atom(0, 0, 59999), 1);
        Check.due("atom 2", x.atom(7, -1, -6), 2);
        Check.due("atom 3", x.atom(7, -1, -6), 3);
        Check.due("atom 4", x.atom(3, -6, 0), 4);
        Check.due("atom 5", x.atom(3, -6, 0), FULL);
        Check.due("BAD before FULL", x.atom(8, 0, 0), BAD);
        Check.due("clear()", x.clear(), 4);
    }

    private static void atomWrong() {
        VirtualRewrite x = new VirtualRewrite();
        int[] predicates = {Integer.MIN_VALUE, -1, 8, Integer.MAX_VALUE};
        for (int w : predicates) {
            Check.due("atom predicate " + w, x.atom(w, 0, 0), BAD);
        }
        int[] places = {Integer.MIN_VALUE, -7, 60000, Integer.MAX_VALUE};
        for (int w : places) {
            Check.due("atom subject " + w, x.atom(0, w, 0), BAD);
            Check.due("atom object " + w, x.atom(0, 0, w), BAD);
        }
        Check.due("BAD left no atom", x.clear(), 0);
    }

    private static void spanCounts() {
        VirtualRewrite x = new VirtualRewrite();
        Check.due("span 1", x.span(0, 1, 2), 1);
        Check.due("span 2", x.span(5, 2, 1), 2);
        Check.due("span 3", x.span(5, Integer.MIN_VALUE, Integer.MAX_VALUE), 3);
        Check.due("span 4", x.span(0, 1, 2), 4);
        Check.due("span 5", x.span(0, 1, 2), FULL);
        Check.due("BAD before FULL", x.span(6, 1, 2), BAD);
        x.clear();
        Check.due("spans went with clear", x.span(0, 1, 2), 1);
    }

    private static void spanWrong() {
        VirtualRewrite x = new VirtualRewrite();
        int[] wrong = {Integer.MIN_VALUE, -1, 6, Integer.MAX_VALUE};
        for (int w : wrong) {
            Check.due("span variable " + w, x.span(w, 0, 9), BAD);
        }
        Check.due("BAD left no span", x.span(0, 0, 9), 1);
    }

    private static VirtualRewrite tenRows() {
        VirtualRewrite x = new VirtualRewrite();
        for (int i = 0; i < 10; i++) {
            x.row(0, i, i * 1111, 9999 - i);
        }
        x.mapping(0, 0, 1, 0, 2, 1);
        x.atom(0, -1, -2);
        return x;
    }

    private static void spansNarrow() {
        VirtualRewrite x = tenRows();
        Check.due("without spans", x.run(), 10);
        x.span(0, 2, 7);
        Check.due("both ends belong to it", x.run(), 6);
        Check.due("its number, not its code", x.value(0, 0), 10002);
        x.span(0, 5, 9);
        Check.due("both spans hold", x.run(), 3);
        x.span(0, 0, 9999);
        Check.due("a wider span takes nothing back", x.run(), 3);
        x.clear();
        x.atom(0, -1, -2);
        x.span(0, 5, 7);
        x.span(3, 5000, 1);
        Check.due("nothing asked of a variable that no atom has", x.run(), 3);
        x.span(1, 6666, 6666);
        Check.due("one number", x.run(), 1);
        Check.due("the other variable", x.value(0, 1), 26666);
        Check.due("unions stay", x.unions(), 1);
    }

    private static void spanEdges() {
        VirtualRewrite x = tenRows();
        x.span(1, Integer.MIN_VALUE, Integer.MAX_VALUE);
        Check.due("the widest span", x.run(), 10);
        x.span(0, -5, 0);
        Check.due("from below all numbers", x.run(), 1);
        x.clear();
        x.atom(0, -1, -2);
        x.span(1, 9999, 123456);
        Check.due("to above all numbers", x.run(), 1);
        x.span(0, 9, 8);
        Check.due("a span of nothing", x.run(), 0);
        x.clear();
        x.span(2, 3, 4);
        x.atom(0, -3, -3);
        Check.due("span before its atom, dropped union", x.run(), 0);
        x.clear();
        x.span(2, 3, 4);
        x.atom(0, -3, -4);
        Check.due("span before its atom", x.run(), 2);
    }

    private static void clearing() {
        VirtualRewrite x = tenRows();
        x.span(0, 3, 3);
        Check.due("run()", x.run(), 1);
        Check.due("clear()", x.clear(), 1);
        Check.due("answers stay", x.value(0, 0), 10003);
        Check.due("unions() without atoms", x.unions(), BAD);
        Check.due("clear() again", x.clear(), 0);
        x.atom(0, -1, -2);
        Check.due("spans are gone", x.run(), 10);
        Check.due("rows and mappings stay", x.triples(), 10);
    }
}
