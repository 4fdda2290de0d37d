/** Promise 10: unions. */
public final class UnionsTest {
    private static final String TEN = "10: unions";
    private static final String CODE = "a place with a code has another template than the mapping's term there";
    private static final String VARIABLE = "a variable stands at places with different templates";
    private static final String MORE = "When there would be more than 150: TOO LARGE";
    private static final int BAD = VirtualRewrite.BAD;
    private static final int LARGE = VirtualRewrite.LARGE;

    public static void main(String[] args) {
        Sentences.run(UnionsTest.class);
    }

    /** Mappings of predicate 0 by the templates of subject and object. */
    private static VirtualRewrite withTemplates(int[]... templates) {
        VirtualRewrite x = new VirtualRewrite();
        for (int[] t : templates) {
            x.mapping(0, 0, t[0], 0, t[1], 1);
        }
        return x;
    }

    private static VirtualRewrite twelveAlike() {
        VirtualRewrite x = new VirtualRewrite();
        for (int i = 0; i < 12; i++) {
            x.mapping(0, 0, 0, 0, 0, 1);
        }
        return x;
    }

    @Sentence(promise = TEN, says = "A UNION gives each atom a mapping of its predicate", edge = "one to four atoms")
    private static void productOfMappings() {
        VirtualRewrite x = new VirtualRewrite();
        for (int i = 0; i < 9; i++) {
            x.mapping(i % 4, i % 3 == 0 ? 7 : 2, 0, 0, 0, 1);
        }
        int[] due = {3, 18, 54, LARGE};
        int[] predicates = {7, 2, 7, 2};
        for (int i = 0; i < 4; i++) {
            x.atom(predicates[i], -1, -2);
            Check.due("unions() of " + (i + 1), x.unions(), due[i]);
        }
    }

    @Sentence(promise = TEN, says = "A UNION gives each atom a mapping of its predicate", edge = "a mapping that comes later counts too")
    private static void mappingThatComesLater() {
        VirtualRewrite x = new VirtualRewrite();
        x.atom(3, -1, -2);
        Check.due("unions() of no mapping", x.unions(), 0);
        x.mapping(0, 3, 0, 0, 0, 1);
        Check.due("unions() of one", x.unions(), 1);
        x.mapping(0, 4, 0, 0, 0, 1);
        Check.due("unions() of one and another predicate's", x.unions(), 1);
        x.mapping(1, 3, 5, 0, 5, 1);
        Check.due("unions() of two", x.unions(), 2);
    }

    @Sentence(promise = TEN, says = "How many unions are not dropped", edge = "none, as a predicate has no mapping")
    private static void noneOfPredicateWithoutMapping() {
        VirtualRewrite x = Samples.oneAnswer();
        x.atom(1, -1, -2);
        Check.due("unions()", x.unions(), 0);
    }

    @Sentence(promise = TEN, says = "How many unions are not dropped", edge = "none, as all are dropped")
    private static void allAreDropped() {
        VirtualRewrite x = twelveAlike();
        x.atom(0, 10000, -1);
        Check.due("unions()", x.unions(), 0);
    }

    @Sentence(promise = TEN, says = CODE, edge = "the subject's")
    private static void droppedBySubjectsCode() {
        VirtualRewrite x = withTemplates(new int[] {1, 2}, new int[] {2, 1}, new int[] {1, 1});
        x.atom(0, 19999, -1);
        Check.due("unions() of template 1", x.unions(), 2);
        x.clear();
        x.atom(0, 20000, -1);
        Check.due("unions() of template 2", x.unions(), 1);
        x.clear();
        x.atom(0, 9999, -1);
        Check.due("unions() of template 0", x.unions(), 0);
    }

    @Sentence(promise = TEN, says = CODE, edge = "the object's")
    private static void droppedByObjectsCode() {
        VirtualRewrite x = withTemplates(new int[] {1, 2}, new int[] {2, 1}, new int[] {1, 1});
        x.atom(0, -1, 10000);
        Check.due("unions() of template 1", x.unions(), 2);
        x.clear();
        x.atom(0, -1, 29999);
        Check.due("unions() of template 2", x.unions(), 1);
        x.clear();
        x.atom(0, -1, 30000);
        Check.due("unions() of template 3", x.unions(), 0);
    }

    @Sentence(promise = TEN, says = CODE, edge = "both places have one")
    private static void droppedByBothCodes() {
        VirtualRewrite x = withTemplates(new int[] {1, 2}, new int[] {2, 1}, new int[] {1, 1});
        x.atom(0, 10000, 20000);
        Check.due("unions() of 1 and 2", x.unions(), 1);
        x.atom(0, 20000, 20000);
        Check.due("unions() of 2 and 2 too", x.unions(), 0);
    }

    @Sentence(promise = TEN, says = CODE, edge = "the codes at the ends of each template are of that template")
    private static void endsOfTemplates() {
        for (int template = 0; template < 6; template++) {
            VirtualRewrite x = withTemplates(new int[] {template, template});
            x.atom(0, 10000 * template, 10000 * template + 9999);
            Check.due("unions() of template " + template, x.unions(), 1);
        }
    }

    @Sentence(promise = TEN, says = CODE, edge = "another number does not drop it")
    private static void otherNumberDropsNothing() {
        VirtualRewrite x = Samples.oneAnswer();
        x.clear();
        x.atom(0, 10500, 20500);
        Check.due("unions()", x.unions(), 1);
        Check.due("run()", x.run(), 0);
    }

    @Sentence(promise = TEN, says = VARIABLE, edge = "both places of one atom")
    private static void droppedByVariableOfOneAtom() {
        VirtualRewrite x = withTemplates(new int[] {1, 2}, new int[] {2, 1}, new int[] {1, 1}, new int[] {5, 5});
        x.atom(0, -1, -1);
        Check.due("unions()", x.unions(), 2);
    }

    @Sentence(promise = TEN, says = VARIABLE, edge = "the object of one and the subject of another")
    private static void droppedByVariableOfTwoAtoms() {
        VirtualRewrite x = withTemplates(new int[] {1, 2}, new int[] {2, 1}, new int[] {1, 1});
        x.atom(0, -1, -2);
        x.atom(0, -2, -1);
        Check.due("unions()", x.unions(), 3);
    }

    @Sentence(promise = TEN, says = VARIABLE, edge = "the first and the last of four atoms")
    private static void droppedByVariableOfLastAtom() {
        VirtualRewrite x = withTemplates(new int[] {1, 3}, new int[] {2, 3});
        x.atom(0, -6, -1);
        x.atom(0, -2, -1);
        x.atom(0, -3, -1);
        Check.due("unions() of three", x.unions(), 8);
        x.atom(0, -6, -1);
        Check.due("unions() of four", x.unions(), 8);
    }

    @Sentence(promise = TEN, says = VARIABLE, edge = "different variables may have different ones")
    private static void differentVariables() {
        VirtualRewrite x = withTemplates(new int[] {0, 1}, new int[] {2, 3}, new int[] {4, 5});
        x.atom(0, -1, -2);
        x.atom(0, -3, -4);
        x.atom(0, -5, -6);
        Check.due("unions()", x.unions(), 27);
    }

    @Sentence(promise = TEN, says = "It is DROPPED when", edge = "rows do not matter")
    private static void rowsDoNotMatter() {
        VirtualRewrite x = withTemplates(new int[] {1, 1});
        x.atom(0, -1, -2);
        Check.due("unions() without rows", x.unions(), 1);
        x.row(0, 1, 2, 3);
        Check.due("unions() with a row", x.unions(), 1);
    }

    @Sentence(promise = TEN, says = MORE, edge = "150 are not")
    private static void exactly150() {
        VirtualRewrite x = Samples.unions150();
        Check.due("unions()", x.unions(), 150);
        x.mapping(0, 7, 0, 0, 0, 1);
        Check.due("unions() with a mapping that is not asked", x.unions(), 150);
    }

    @Sentence(promise = TEN, says = MORE, edge = "151 are")
    private static void exactly151() {
        Check.due("unions()", Samples.unions151().unions(), LARGE);
    }

    @Sentence(promise = TEN, says = MORE, edge = "the most: twelve mappings for each of four atoms")
    private static void theMost() {
        VirtualRewrite x = twelveAlike();
        int[] due = {12, 144, LARGE, LARGE};
        for (int i = 0; i < 4; i++) {
            x.atom(0, -1, -2);
            Check.due("unions() of " + (i + 1), x.unions(), due[i]);
        }
    }

    @Sentence(promise = TEN, says = MORE, edge = "those that are dropped do not count")
    private static void droppedDoNotCount() {
        VirtualRewrite x = new VirtualRewrite();
        for (int i = 0; i < 12; i++) {
            x.mapping(0, 0, i % 6, 0, 0, 1);
        }
        for (int i = 0; i < 4; i++) {
            x.atom(0, -1, -2);
        }
        Check.due("unions(), 2 times 2 times 2 times 2 of each template", x.unions(), 96);
    }

    @Sentence(promise = TEN, says = MORE, edge = "none are not, though three of four atoms have 1728 ways")
    private static void lastAtomDropsAll() {
        VirtualRewrite x = twelveAlike();
        for (int i = 0; i < 3; i++) {
            x.atom(0, -1, -2);
        }
        x.atom(1, -1, -2);
        Check.due("unions()", x.unions(), 0);
        Check.due("run()", x.run(), 0);
    }

    @Sentence(promise = TEN, says = "LARGE", edge = "an atom that drops enough brings it back")
    private static void atomBringsItBack() {
        VirtualRewrite x = twelveAlike();
        for (int i = 0; i < 3; i++) {
            x.atom(0, -1, -2);
        }
        Check.due("unions() of three", x.unions(), LARGE);
        x.atom(0, 10000, -2);
        Check.due("unions() of four", x.unions(), 0);
    }

    @Sentence(promise = TEN, says = "LARGE", edge = "a mapping brings it from 128 to more than 150")
    private static void mappingBringsIt() {
        VirtualRewrite x = new VirtualRewrite();
        for (int i = 0; i < 6; i++) {
            x.mapping(0, i < 4 ? 0 : 1, 0, 0, 0, 1);
        }
        x.atom(0, -1, -2);
        x.atom(0, -1, -2);
        x.atom(0, -1, -2);
        x.atom(1, -1, -2);
        Check.due("unions()", x.unions(), 128);
        x.mapping(0, 1, 0, 0, 0, 1);
        Check.due("unions() with one mapping more", x.unions(), LARGE);
    }

    @Sentence(promise = TEN, says = "BAD without atoms", edge = "a new object, also with mappings and spans")
    private static void badWithoutAtoms() {
        VirtualRewrite x = new VirtualRewrite();
        Check.due("unions() of a new object", x.unions(), BAD);
        x.mapping(0, 0, 0, 0, 0, 1);
        x.span(0, 0, 9);
        Check.due("unions() with mapping and span", x.unions(), BAD);
        x.atom(0, -1, -2);
        Check.due("unions() with an atom", x.unions(), 1);
        x.clear();
        Check.due("unions() after clear()", x.unions(), BAD);
    }
}
