/** Promise 11: union. */
public final class UnionTest {
    private static final String ELEVEN = "11: union";
    private static final String NUMBERED =
            "Unions are numbered from 0 by their mappings: that of atom 0 first, the lesser number before";
    private static final String SLOT =
            "each next atom has the slot of the least atom before it that is OF ONE ROW with it, else the next number";
    private static final String ONE_ROW = "Two atoms are of one row, if their mappings are of one table and some KEY column is"
            + " the one of a place of each (either of its two), and these places are the same variable, or have the same code";
    private static final int BAD = VirtualRewrite.BAD;
    private static final int LARGE = VirtualRewrite.LARGE;

    public static void main(String[] args) {
        Sentences.run(UnionTest.class);
    }

    /** Column 0 of table 0 is a key; predicate 0: columns 0 and 1, 1: 0 and 2, 2: of table 1, 3: 1 and 0. */
    private static VirtualRewrite keyed() {
        VirtualRewrite x = new VirtualRewrite();
        x.key(0, 0, true);
        x.mapping(0, 0, 0, 0, 1, 1);
        x.mapping(0, 1, 0, 0, 1, 2);
        x.mapping(1, 2, 0, 0, 1, 1);
        x.mapping(0, 3, 1, 1, 0, 0);
        return x;
    }

    private static void mappings(VirtualRewrite x, int[][] due) {
        Check.due("unions()", x.unions(), due.length);
        for (int i = 0; i < due.length; i++) {
            for (int atom = 0; atom < due[i].length; atom++) {
                Check.due("union(" + i + ", " + atom + ")", x.union(i, atom), due[i][atom]);
            }
        }
    }

    private static void slots(VirtualRewrite x, int... due) {
        int most = 0;
        for (int atom = 0; atom < due.length; atom++) {
            Check.due("slot of atom " + atom, x.union(0, 4 + atom), due[atom]);
            most = Math.max(most, due[atom] + 1);
        }
        Check.due("how many slots", x.union(0, 8), most);
    }

    @Sentence(promise = ELEVEN, says = NUMBERED, edge = "two atoms with two mappings each")
    private static void numberedByAtomZeroFirst() {
        VirtualRewrite x = new VirtualRewrite();
        x.mapping(0, 1, 0, 0, 0, 1);
        x.mapping(0, 0, 0, 0, 0, 1);
        x.mapping(0, 1, 0, 0, 0, 2);
        x.mapping(0, 0, 0, 0, 0, 2);
        x.atom(1, -1, -2);
        x.atom(0, -3, -4);
        mappings(x, new int[][] {{0, 1}, {0, 3}, {2, 1}, {2, 3}});
    }

    @Sentence(promise = ELEVEN, says = NUMBERED, edge = "those that are dropped have no number")
    private static void droppedHaveNoNumber() {
        VirtualRewrite x = new VirtualRewrite();
        x.mapping(0, 0, 1, 0, 2, 1);
        x.mapping(0, 0, 2, 0, 1, 1);
        x.mapping(0, 0, 1, 0, 1, 1);
        x.atom(0, -1, -2);
        x.atom(0, -2, -1);
        mappings(x, new int[][] {{0, 1}, {1, 0}, {2, 2}});
        Check.due("union(3, 0)", x.union(3, 0), BAD);
    }

    @Sentence(promise = ELEVEN, says = NUMBERED, edge = "the first and the last of 150")
    private static void firstAndLastOf150() {
        VirtualRewrite x = Samples.unions150();
        int[] first = {0, 0, 5, 8};
        int[] last = {4, 4, 7, 9};
        for (int atom = 0; atom < 4; atom++) {
            Check.due("union(0, " + atom + ")", x.union(0, atom), first[atom]);
            Check.due("union(149, " + atom + ")", x.union(149, atom), last[atom]);
        }
        Check.due("union(1, 3)", x.union(1, 3), 9);
        Check.due("union(2, 2)", x.union(2, 2), 6);
        Check.due("union(6, 1)", x.union(6, 1), 1);
        Check.due("union(30, 0)", x.union(30, 0), 1);
        Check.due("union(29, 0)", x.union(29, 0), 0);
    }

    @Sentence(promise = ELEVEN, says = NUMBERED, edge = "a mapping that comes later moves those behind it")
    private static void mappingThatComesLater() {
        VirtualRewrite x = new VirtualRewrite();
        x.mapping(0, 0, 0, 0, 0, 1);
        x.mapping(0, 1, 0, 0, 0, 1);
        x.mapping(0, 0, 0, 0, 0, 1);
        x.atom(0, -1, -2);
        x.atom(1, -1, -2);
        mappings(x, new int[][] {{0, 1}, {2, 1}});
        x.mapping(0, 1, 0, 0, 0, 1);
        mappings(x, new int[][] {{0, 1}, {0, 3}, {2, 1}, {2, 3}});
    }

    @Sentence(promise = ELEVEN, says = "the mapping of atom what (0 .. 3)", edge = "each of four atoms")
    private static void mappingOfEachAtom() {
        VirtualRewrite x = keyed();
        for (int atom = 0; atom < 4; atom++) {
            x.atom(3 - atom, -1 - atom, -5);
        }
        Check.due("unions()", x.unions(), 0);
        x.clear();
        int[] predicates = {2, 0, 1, 0};
        for (int predicate : predicates) {
            x.atom(predicate, -1, -2);
        }
        mappings(x, new int[][] {{2, 0, 1, 0}});
    }

    @Sentence(promise = ELEVEN, says = "the slot of atom what - 4 (4 .. 7)", edge = "four slots of four atoms")
    private static void slotOfEachAtom() {
        VirtualRewrite x = keyed();
        for (int atom = 0; atom < 4; atom++) {
            x.atom(0, -1 - atom, -5);
        }
        slots(x, 0, 1, 2, 3);
    }

    @Sentence(promise = ELEVEN, says = "how many slots (8)", edge = "one to four")
    private static void howManySlots() {
        VirtualRewrite x = keyed();
        for (int atom = 0; atom < 4; atom++) {
            x.atom(0, -1 - atom, -5);
            Check.due("union(0, 8)", x.union(0, 8), atom + 1);
        }
        x.clear();
        for (int atom = 0; atom < 4; atom++) {
            x.atom(0, -1, -2 - atom);
            Check.due("union(0, 8) of one row", x.union(0, 8), 1);
        }
    }

    @Sentence(promise = ELEVEN, says = "BAD: none such", edge = "what beyond both ends")
    private static void badWhat() {
        VirtualRewrite x = keyed();
        for (int atom = 0; atom < 4; atom++) {
            x.atom(0, -1, -2);
        }
        for (int what : Samples.outside(9)) {
            Check.due("union(0, " + what + ")", x.union(0, what), BAD);
        }
        Check.due("union(0, 8)", x.union(0, 8), 1);
        Check.due("union(0, 0)", x.union(0, 0), 0);
    }

    @Sentence(promise = ELEVEN, says = "BAD: none such", edge = "i beyond both ends")
    private static void badUnion() {
        VirtualRewrite x = new VirtualRewrite();
        x.mapping(0, 0, 0, 0, 0, 1);
        x.mapping(0, 0, 0, 0, 0, 1);
        x.atom(0, -1, -2);
        for (int i : Samples.outside(2)) {
            Check.due("union(" + i + ", 0)", x.union(i, 0), BAD);
            Check.due("union(" + i + ", 4)", x.union(i, 4), BAD);
            Check.due("union(" + i + ", 8)", x.union(i, 8), BAD);
        }
        Check.due("union(1, 0)", x.union(1, 0), 1);
    }

    @Sentence(promise = ELEVEN, says = "BAD: none such", edge = "behind the last of 150")
    private static void badBehind150() {
        VirtualRewrite x = Samples.unions150();
        for (int i : Samples.outside(150)) {
            Check.due("union(" + i + ", 0)", x.union(i, 0), BAD);
            Check.due("union(" + i + ", 8)", x.union(i, 8), BAD);
        }
        Check.due("union(149, 8)", x.union(149, 8), 4);
    }

    @Sentence(promise = ELEVEN, says = "BAD: none such", edge = "there is no union at all")
    private static void badWithoutUnions() {
        VirtualRewrite x = new VirtualRewrite();
        x.atom(0, -1, -2);
        for (int what = 0; what < 9; what++) {
            Check.due("union(0, " + what + ")", x.union(0, what), BAD);
        }
    }

    @Sentence(promise = ELEVEN, says = "BAD: none such, no such atom", edge = "there is no atom at all")
    private static void badWithoutAtoms() {
        VirtualRewrite x = keyed();
        for (int what = 0; what < 9; what++) {
            Check.due("union(0, " + what + ")", x.union(0, what), BAD);
        }
    }

    @Sentence(promise = ELEVEN, says = "no such atom", edge = "one to three atoms, their mappings and slots")
    private static void badAtom() {
        VirtualRewrite x = keyed();
        for (int atoms = 1; atoms <= 4; atoms++) {
            x.atom(0, -1, -2);
            for (int atom = 0; atom < 4; atom++) {
                int due = atom < atoms ? 0 : BAD;
                Check.due("union(0, " + atom + ") of " + atoms, x.union(0, atom), due);
                Check.due("union(0, " + (4 + atom) + ") of " + atoms, x.union(0, 4 + atom), due);
            }
        }
    }

    @Sentence(promise = ELEVEN, says = "LARGE", edge = "151 unions, each what")
    private static void largeOfEachWhat() {
        VirtualRewrite x = Samples.unions151();
        for (int what = 0; what < 9; what++) {
            Check.due("union(0, " + what + ")", x.union(0, what), LARGE);
        }
        Check.due("union(150, 0)", x.union(150, 0), LARGE);
        Check.due("union(149, 0)", x.union(149, 0), LARGE);
    }

    @Sentence(promise = ELEVEN, says = "BAD: none such, no such atom; LARGE", edge = "BAD where LARGE would be due too")
    private static void badComesFirst() {
        VirtualRewrite x = new VirtualRewrite();
        for (int i = 0; i < 12; i++) {
            x.mapping(0, 0, 0, 0, 0, 1);
        }
        for (int i = 0; i < 3; i++) {
            x.atom(0, -1, -2);
        }
        Check.due("union(0, 2)", x.union(0, 2), LARGE);
        Check.due("union(0, 3)", x.union(0, 3), BAD);
        Check.due("union(0, 7)", x.union(0, 7), BAD);
        Check.due("union(0, 9)", x.union(0, 9), BAD);
        Check.due("union(0, -1)", x.union(0, -1), BAD);
        Check.due("union(-1, 0)", x.union(-1, 0), BAD);
        Check.due("union(least, 8)", x.union(Integer.MIN_VALUE, 8), BAD);
    }

    @Sentence(promise = ELEVEN, says = "LARGE", edge = "no more after clear()")
    private static void notLargeAfterClear() {
        VirtualRewrite x = Samples.unions151();
        x.union(0, 0);
        x.clear();
        Check.due("union(0, 0) without atoms", x.union(0, 0), BAD);
        x.atom(1, -1, -2);
        Check.due("union(6, 0)", x.union(6, 0), 11);
    }

    @Sentence(promise = ELEVEN, says = "atom 0 has slot 0", edge = "also with a key and a code")
    private static void atomZeroHasSlotZero() {
        VirtualRewrite x = keyed();
        x.atom(0, 5, 10006);
        slots(x, 0);
    }

    @Sentence(promise = ELEVEN, says = "atom 0 has slot 0", edge = "in each of 150 unions")
    private static void atomZeroOfEachUnion() {
        VirtualRewrite x = Samples.unions150();
        for (int i = 0; i < 150; i++) {
            Check.due("union(" + i + ", 4)", x.union(i, 4), 0);
        }
    }

    @Sentence(promise = ELEVEN, says = ONE_ROW, edge = "the same variable")
    private static void sameVariable() {
        VirtualRewrite x = keyed();
        x.atom(0, -1, -2);
        x.atom(1, -1, -3);
        slots(x, 0, 0);
    }

    @Sentence(promise = ELEVEN, says = ONE_ROW, edge = "another variable")
    private static void otherVariable() {
        VirtualRewrite x = keyed();
        x.atom(0, -1, -2);
        x.atom(1, -4, -2);
        slots(x, 0, 1);
    }

    @Sentence(promise = ELEVEN, says = ONE_ROW, edge = "the same code")
    private static void sameCode() {
        VirtualRewrite x = keyed();
        x.atom(0, 0, -2);
        x.atom(1, 0, -3);
        slots(x, 0, 0);
        x.clear();
        x.atom(0, 9999, -2);
        x.atom(1, 9999, -3);
        slots(x, 0, 0);
    }

    @Sentence(promise = ELEVEN, says = ONE_ROW, edge = "another code")
    private static void otherCode() {
        VirtualRewrite x = keyed();
        x.atom(0, 7, -2);
        x.atom(1, 8, -2);
        slots(x, 0, 1);
    }

    @Sentence(promise = ELEVEN, says = ONE_ROW, edge = "the same number with another template is not the same code")
    private static void sameNumberOtherTemplate() {
        VirtualRewrite x = new VirtualRewrite();
        x.key(0, 0, true);
        x.mapping(0, 0, 1, 0, 0, 1);
        x.mapping(0, 1, 2, 0, 0, 1);
        x.atom(0, 10007, -1);
        x.atom(1, 20007, -1);
        slots(x, 0, 1);
    }

    @Sentence(promise = ELEVEN, says = ONE_ROW, edge = "a variable and a code are not the same")
    private static void variableAndCode() {
        VirtualRewrite x = keyed();
        x.atom(0, -1, -2);
        x.atom(1, 1, -2);
        slots(x, 0, 1);
    }

    @Sentence(promise = ELEVEN, says = ONE_ROW, edge = "tables apart")
    private static void tablesApart() {
        VirtualRewrite x = keyed();
        x.key(1, 0, true);
        x.atom(0, -1, -2);
        x.atom(2, -1, -2);
        slots(x, 0, 1);
    }

    @Sentence(promise = ELEVEN, says = ONE_ROW, edge = "the column is no key")
    private static void columnIsNoKey() {
        VirtualRewrite x = keyed();
        x.atom(0, -1, -2);
        x.atom(0, -3, -2);
        slots(x, 0, 1);
        x.key(0, 2, true);
        slots(x, 0, 1);
        x.key(0, 1, true);
        slots(x, 0, 0);
    }

    @Sentence(promise = ELEVEN, says = ONE_ROW, edge = "two keys, but not one column for both")
    private static void keyColumnsApart() {
        VirtualRewrite x = new VirtualRewrite();
        for (int column = 0; column < 3; column++) {
            x.key(0, column, true);
        }
        x.mapping(0, 0, 0, 0, 0, 1);
        x.mapping(0, 1, 0, 1, 0, 2);
        x.atom(0, -1, -2);
        x.atom(1, -1, -3);
        slots(x, 0, 1);
        x.clear();
        x.atom(0, -1, -2);
        x.atom(1, -2, -3);
        slots(x, 0, 0);
    }

    @Sentence(promise = ELEVEN, says = "the one of a place of each (either of its two)", edge = "each of the four ways")
    private static void eitherPlace() {
        int[][] atoms = {{0, -1, -2, 0, -1, -3}, {0, -1, -2, 3, -3, -1}, {3, -2, -1, 0, -1, -3}, {3, -2, -1, 3, -3, -1}};
        for (int[] a : atoms) {
            VirtualRewrite x = keyed();
            x.atom(a[0], a[1], a[2]);
            x.atom(a[3], a[4], a[5]);
            slots(x, 0, 0);
        }
    }

    @Sentence(promise = ELEVEN, says = ONE_ROW, edge = "a mapping with the key column at both places")
    private static void keyColumnAtBothPlaces() {
        VirtualRewrite x = new VirtualRewrite();
        x.key(0, 0, true);
        x.mapping(0, 0, 0, 0, 0, 0);
        x.atom(0, -1, -2);
        x.atom(0, -3, -1);
        x.atom(0, -4, -5);
        x.atom(0, -5, -6);
        slots(x, 0, 0, 1, 1);
    }

    @Sentence(promise = ELEVEN, says = SLOT, edge = "of two, that of the least atom")
    private static void leastOfTwo() {
        VirtualRewrite x = new VirtualRewrite();
        x.key(0, 0, true);
        x.key(0, 1, true);
        x.mapping(0, 0, 0, 0, 1, 1);
        x.atom(0, -1, -2);
        x.atom(0, -3, -4);
        x.atom(0, -3, -2);
        slots(x, 0, 1, 0);
    }

    @Sentence(promise = ELEVEN, says = SLOT, edge = "by an atom that is not the first of its slot")
    private static void chain() {
        VirtualRewrite x = new VirtualRewrite();
        x.key(0, 0, true);
        x.key(0, 1, true);
        x.mapping(0, 0, 0, 0, 1, 1);
        x.atom(0, -1, -2);
        x.atom(0, -3, -2);
        x.atom(0, -3, -4);
        x.atom(0, -5, -4);
        slots(x, 0, 0, 0, 0);
    }

    @Sentence(promise = ELEVEN, says = SLOT, edge = "the next number comes after slots that were shared")
    private static void nextNumberAfterShared() {
        VirtualRewrite x = keyed();
        x.atom(0, -1, -2);
        x.atom(1, -1, -3);
        x.atom(1, -4, -3);
        x.atom(2, -1, -2);
        slots(x, 0, 0, 1, 2);
        x.clear();
        x.atom(0, 7, -2);
        x.atom(1, 8, -2);
        x.atom(1, 7, -3);
        x.atom(1, -1, -3);
        slots(x, 0, 1, 0, 2);
    }

    @Sentence(promise = ELEVEN, says = SLOT, edge = "slots follow a key that goes and comes")
    private static void slotsFollowKeys() {
        VirtualRewrite x = keyed();
        x.atom(0, -1, -2);
        x.atom(1, -1, -3);
        slots(x, 0, 0);
        x.key(0, 0, false);
        slots(x, 0, 1);
        x.key(0, 0, true);
        slots(x, 0, 0);
    }

    @Sentence(promise = ELEVEN, says = "the slot of atom what - 4", edge = "each union has slots of its own")
    private static void slotsOfEachUnion() {
        VirtualRewrite x = new VirtualRewrite();
        x.key(0, 0, true);
        x.mapping(0, 0, 0, 0, 0, 1);
        x.mapping(1, 0, 0, 0, 0, 1);
        x.atom(0, -1, -2);
        x.atom(0, -1, -3);
        int[] due = {1, 2, 2, 2};
        for (int i = 0; i < 4; i++) {
            Check.due("union(" + i + ", 8)", x.union(i, 8), due[i]);
            Check.due("union(" + i + ", 5)", x.union(i, 5), due[i] - 1);
        }
        Check.due("union(0, 8) again", x.union(0, 8), 1);
    }
}
