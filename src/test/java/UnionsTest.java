/** Promises 10 to 12: unions, union, estimate. */
public final class UnionsTest {
    private static final int BAD = VirtualRewrite.BAD;
    private static final int LARGE = VirtualRewrite.LARGE;

    public static void main(String[] args) {
        order();
        dropByCode();
        dropByVariable();
        mostUnions();
        tooLarge();
        slotsByVariable();
        slotsByCode();
        slotsOfEitherPlace();
        slotsOfLeastAtom();
        slotsFollowKeys();
        wrong();
        estimates();
        Check.end();
    }

    private static void order() {
        VirtualRewrite x = new VirtualRewrite();
        x.mapping(0, 1, 0, 0, 0, 1);
        x.mapping(0, 0, 0, 0, 0, 1);
        x.mapping(0, 1, 0, 0, 0, 2);
        x.mapping(0, 0, 0, 0, 0, 2);
        x.atom(1, -1, -2);
        Check.due("unions of one atom", x.unions(), 2);
        x.atom(0, -3, -4);
        Check.due("unions of two atoms", x.unions(), 4);
        int[][] due = {{0, 1}, {0, 3}, {2, 1}, {2, 3}};
        for (int i = 0; i < 4; i++) {
            Check.due("union(" + i + ", 0)", x.union(i, 0), due[i][0]);
            Check.due("union(" + i + ", 1)", x.union(i, 1), due[i][1]);
        }
        x.mapping(0, 0, 0, 0, 0, 0);
        Check.due("a mapping more", x.unions(), 6);
        Check.due("union(2, 1)", x.union(2, 1), 4);
        x.atom(5, -1, -1);
        Check.due("a predicate without mappings", x.unions(), 0);
        Check.due("union(0, 0) of none", x.union(0, 0), BAD);
        Check.due("estimate(0) of none", x.estimate(0), BAD);
        Check.due("run() of none", x.run(), 0);
    }

    private static void dropByCode() {
        VirtualRewrite x = new VirtualRewrite();
        x.mapping(0, 0, 1, 0, 2, 1);
        x.mapping(0, 0, 2, 0, 1, 1);
        x.atom(0, 10000, -1);
        Check.due("subject's template", x.unions(), 1);
        Check.due("the one that is left", x.union(0, 0), 0);
        x.clear();
        x.atom(0, -1, 19999);
        Check.due("object's template", x.unions(), 1);
        Check.due("the other one is left", x.union(0, 0), 1);
        x.clear();
        x.atom(0, 19999, 10000);
        Check.due("no mapping has both", x.unions(), 0);
        x.clear();
        x.atom(0, 9999, -1);
        Check.due("no mapping has it", x.unions(), 0);
    }

    private static void dropByVariable() {
        VirtualRewrite x = new VirtualRewrite();
        x.mapping(0, 0, 1, 0, 2, 1);
        x.mapping(0, 0, 2, 0, 1, 1);
        x.mapping(0, 0, 1, 0, 1, 1);
        x.atom(0, -1, -1);
        Check.due("twice in one atom", x.unions(), 1);
        Check.due("of one template", x.union(0, 0), 2);
        x.clear();
        x.atom(0, -1, -2);
        x.atom(0, -2, -1);
        Check.due("in two atoms", x.unions(), 3);
        int[][] due = {{0, 1}, {1, 0}, {2, 2}};
        for (int i = 0; i < 3; i++) {
            Check.due("union(" + i + ", 0)", x.union(i, 0), due[i][0]);
            Check.due("union(" + i + ", 1)", x.union(i, 1), due[i][1]);
        }
        x.atom(0, -3, -4);
        x.atom(0, -3, -1);
        Check.due("the last atom drops too", x.unions(), 8);
    }

    private static void mostUnions() {
        VirtualRewrite x = new VirtualRewrite();
        int[] each = {1, 2, 5, 3};
        for (int predicate = 0; predicate < 4; predicate++) {
            for (int i = 0; i < each[predicate]; i++) {
                x.mapping(0, predicate, 0, 0, 0, 1);
            }
        }
        x.atom(2, -1, -2);
        x.atom(3, -1, -2);
        x.atom(2, -1, -2);
        x.atom(1, -1, -2);
        Check.due("150 unions", x.unions(), 150);
        Check.due("the last one's atom 0", x.union(149, 0), 7);
        Check.due("the last one's atom 1", x.union(149, 1), 10);
        Check.due("the last one's atom 3", x.union(149, 3), 2);
        Check.due("no union 150", x.union(150, 0), BAD);
        Check.due("no estimate of 150", x.estimate(150), BAD);
        x.row(0, 1, 2, 3);
        Check.due("run()", x.run(), 1);
        Check.due("all find it", x.found(0, 0), 150);
        Check.due("the first of them", x.found(0, 1), 0);
        x.mapping(0, 7, 0, 0, 0, 1);
        Check.due("a mapping of a predicate that is not asked", x.unions(), 150);
    }

    private static void tooLarge() {
        VirtualRewrite x = new VirtualRewrite();
        x.row(0, 1, 2, 3);
        for (int i = 0; i < 12; i++) {
            x.mapping(0, 0, i % 2, 0, 2, 1);
        }
        x.atom(0, -1, -2);
        Check.due("run()", x.run(), 2);
        x.atom(0, -3, -4);
        Check.due("144", x.unions(), 144);
        x.atom(0, -1, -5);
        Check.due("864", x.unions(), LARGE);
        Check.due("union of too many", x.union(0, 0), LARGE);
        Check.due("slot of too many", x.union(149, 6), LARGE);
        Check.due("slots of too many", x.union(7, 8), LARGE);
        Check.due("estimate of too many", x.estimate(0), LARGE);
        Check.due("no such atom comes first", x.union(0, 3), BAD);
        Check.due("nothing such comes first", x.union(0, 9), BAD);
        Check.due("no such union comes first", x.union(-1, 0), BAD);
        Check.due("no such estimate comes first", x.estimate(-1), BAD);
        Check.due("run of too many", x.run(), LARGE);
        Check.due("no answers then", x.found(0, 0), BAD);
        Check.due("no answers then, no throw", x.value(0, 5), BAD);
        x.clear();
        x.atom(0, -1, -2);
        Check.due("not too many again", x.unions(), 12);
    }

    private static VirtualRewrite keyed() {
        VirtualRewrite x = new VirtualRewrite();
        x.key(0, 0, true);
        x.mapping(0, 0, 0, 0, 1, 1);
        x.mapping(0, 1, 0, 0, 1, 2);
        x.mapping(1, 2, 0, 0, 1, 1);
        x.mapping(0, 3, 1, 1, 0, 0);
        return x;
    }

    private static void slots(String of, VirtualRewrite x, int... due) {
        int most = 0;
        for (int atom = 0; atom < due.length; atom++) {
            Check.due(of + ": slot of atom " + atom, x.union(0, 4 + atom), due[atom]);
            most = Math.max(most, due[atom] + 1);
        }
        Check.due(of + ": slots", x.union(0, 8), most);
    }

    private static void slotsByVariable() {
        VirtualRewrite x = keyed();
        x.atom(0, -1, -2);
        x.atom(1, -1, -3);
        x.atom(1, -4, -3);
        x.atom(2, -1, -2);
        slots("same key variable", x, 0, 0, 1, 2);
        Check.due("mapping of atom 3", x.union(0, 3), 2);
    }

    private static void slotsByCode() {
        VirtualRewrite x = keyed();
        x.atom(0, 7, -2);
        x.atom(1, 8, -2);
        x.atom(1, 7, -3);
        x.atom(1, -1, -3);
        slots("same key code", x, 0, 1, 0, 2);
    }

    private static void slotsOfEitherPlace() {
        VirtualRewrite x = keyed();
        x.atom(0, -1, -2);
        x.atom(3, -2, -3);
        x.atom(3, -4, -1);
        slots("subject of one, object of the other", x, 0, 1, 0);
        x.clear();
        x.atom(3, -2, 5);
        x.atom(3, -3, 5);
        slots("object of both", x, 0, 0);
    }

    private static void slotsOfLeastAtom() {
        VirtualRewrite x = new VirtualRewrite();
        x.key(0, 0, true);
        x.key(0, 1, true);
        x.mapping(0, 0, 0, 0, 1, 1);
        x.atom(0, -1, -2);
        x.atom(0, -3, -4);
        x.atom(0, -3, -2);
        slots("the least of two", x, 0, 1, 0);
        x.atom(0, -3, -5);
        slots("by an atom that has another's slot", x, 0, 1, 0, 1);
        x.clear();
        x.atom(0, -1, -2);
        x.atom(0, -3, -2);
        x.atom(0, -3, -4);
        slots("a chain", x, 0, 0, 0);
    }

    private static void slotsFollowKeys() {
        VirtualRewrite x = keyed();
        x.row(0, 1, 2, 3);
        x.row(0, 2, 2, 3);
        x.atom(0, -1, -2);
        x.atom(1, -1, -3);
        slots("with a key", x, 0, 0);
        Check.due("estimate with a key", x.estimate(0), 2);
        x.key(0, 0, false);
        slots("without it", x, 0, 1);
        Check.due("estimate without it", x.estimate(0), 4);
        x.key(0, 0, true);
        slots("with it again", x, 0, 0);
        x.key(0, 2, true);
        x.clear();
        x.atom(1, -1, -2);
        x.atom(1, -3, -2);
        slots("an object that is no key", x, 0, 1);
    }

    private static void wrong() {
        VirtualRewrite x = keyed();
        Check.due("union without atoms", x.union(0, 8), BAD);
        Check.due("estimate without atoms", x.estimate(0), BAD);
        Check.due("unions without atoms", x.unions(), BAD);
        x.atom(0, -1, -2);
        int[] numbers = {Integer.MIN_VALUE, -1, 1, Integer.MAX_VALUE};
        for (int w : numbers) {
            Check.due("union(" + w + ", 0)", x.union(w, 0), BAD);
            Check.due("union(" + w + ", 8)", x.union(w, 8), BAD);
            Check.due("estimate(" + w + ")", x.estimate(w), BAD);
        }
        int[] whats = {Integer.MIN_VALUE, -1, 1, 3, 5, 7, 9, Integer.MAX_VALUE};
        for (int w : whats) {
            Check.due("union(0, " + w + ")", x.union(0, w), BAD);
        }
        x.atom(0, -1, -2);
        x.atom(0, -1, -2);
        Check.due("no atom 3", x.union(0, 3), BAD);
        Check.due("no slot of atom 3", x.union(0, 7), BAD);
        x.atom(0, -1, -2);
        Check.due("atom 3", x.union(0, 3), 0);
        Check.due("slot of atom 3", x.union(0, 7), 0);
    }

    private static void estimates() {
        VirtualRewrite x = new VirtualRewrite();
        x.mapping(0, 0, 0, 0, 0, 1);
        x.mapping(1, 1, 0, 0, 0, 1);
        x.atom(0, -1, -2);
        Check.due("an empty table", x.estimate(0), 0);
        for (int i = 0; i < 20; i++) {
            x.row(0, i, 0, 0);
            if (i < 3) {
                x.row(1, i, 0, 0);
            }
        }
        Check.due("one slot", x.estimate(0), 20);
        x.atom(1, -1, -2);
        Check.due("two slots", x.estimate(0), 60);
        x.clear();
        for (int i = 0; i < 4; i++) {
            x.atom(0, -1, -2);
        }
        Check.due("four slots", x.estimate(0), 160000);
        x.key(0, 0, true);
        Check.due("all one slot", x.estimate(0), 20);
        x.drop(0, 0);
        Check.due("a row less", x.estimate(0), 19);
        x.clear();
        x.atom(0, -1, -2);
        x.atom(1, -1, -3);
        x.atom(0, -1, -4);
        Check.due("the first and the last are one", x.estimate(0), 57);
    }
}
