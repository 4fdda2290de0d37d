/** Promise 9: clear. */
public final class ClearTest {
    private static final String NINE = "9: clear";
    private static final int BAD = VirtualRewrite.BAD;
    private static final int NO = VirtualRewrite.NO;

    public static void main(String[] args) {
        Sentences.run(ClearTest.class);
    }

    @Sentence(promise = NINE, says = "how many atoms it had", edge = "none to four")
    private static void countsAtoms() {
        VirtualRewrite x = new VirtualRewrite();
        for (int count = 0; count <= 4; count++) {
            for (int i = 0; i < count; i++) {
                x.atom(0, -1, -2);
            }
            Check.due("clear() of " + count, x.clear(), count);
        }
    }

    @Sentence(promise = NINE, says = "how many atoms it had", edge = "none when it is cleared already")
    private static void clearTwice() {
        VirtualRewrite x = Samples.oneAnswer();
        Check.due("clear()", x.clear(), 1);
        Check.due("clear() again", x.clear(), 0);
    }

    @Sentence(promise = NINE, says = "how many atoms it had", edge = "spans and refused atoms do not count")
    private static void spansDoNotCount() {
        VirtualRewrite x = new VirtualRewrite();
        x.span(0, 0, 9);
        x.span(1, 0, 9);
        x.atom(8, 0, 0);
        Check.due("clear() of spans", x.clear(), 0);
        for (int i = 0; i < 6; i++) {
            x.atom(0, -1, -2);
        }
        Check.due("clear() of a full question", x.clear(), 4);
    }

    @Sentence(promise = NINE, says = "The question has no atoms", edge = "what asks it answers BAD")
    private static void questionIsGone() {
        VirtualRewrite x = Samples.oneAnswer();
        x.unions();
        x.clear();
        Check.due("unions()", x.unions(), BAD);
        Check.due("union(0, 0)", x.union(0, 0), BAD);
        Check.due("union(0, 8)", x.union(0, 8), BAD);
        Check.due("estimate(0)", x.estimate(0), BAD);
        Check.due("run()", x.run(), BAD);
    }

    @Sentence(promise = NINE, says = "The question has no atoms", edge = "the next one begins anew")
    private static void nextQuestionBeginsAnew() {
        VirtualRewrite x = Samples.oneAnswer();
        x.atom(5, -3, -4);
        Check.due("unions()", x.unions(), 0);
        x.clear();
        x.atom(0, -2, -1);
        Check.due("unions() of the next", x.unions(), 1);
        Check.due("run() of the next", x.run(), 1);
        Check.due("value(0, 0)", x.value(0, 0), 20002);
        Check.dueThrow("value(0, 2)", x, 0, 2);
    }

    @Sentence(promise = NINE, says = "The question has no atoms", edge = "one that was too large is gone")
    private static void tooLargeIsGone() {
        VirtualRewrite x = Samples.unions151();
        x.unions();
        Check.due("clear()", x.clear(), 4);
        x.atom(0, -1, -2);
        Check.due("unions()", x.unions(), 5);
        Check.due("run()", x.run(), 2);
    }

    @Sentence(promise = NINE, says = "The question has no atoms and spans", edge = "no span holds any more")
    private static void noSpanHolds() {
        VirtualRewrite x = Samples.answers(10);
        for (int variable = 0; variable < 4; variable++) {
            x.span(variable, 9, 0);
        }
        x.clear();
        x.atom(0, -1, -2);
        x.atom(0, -3, -4);
        Check.due("run()", x.run(), 100);
    }

    @Sentence(promise = NINE, says = "The question has no atoms and spans", edge = "spans without atoms go too")
    private static void spansWithoutAtomsGo() {
        VirtualRewrite x = Samples.answers(10);
        x.clear();
        x.span(0, 3, 3);
        x.clear();
        x.atom(0, -1, -2);
        Check.due("run()", x.run(), 10);
        Check.due("the next span", x.span(0, 0, 9), 1);
    }

    @Sentence(promise = NINE, says = "The question has no atoms and spans", edge = "tables, keys and mappings stay")
    private static void theRestStays() {
        VirtualRewrite x = Samples.answers(10);
        x.key(0, 0, true);
        x.clear();
        Check.due("triples()", x.triples(), 10);
        Check.due("row of a key's number", x.row(0, 3, 3, 3), NO);
        Check.due("mapping", x.mapping(0, 0, 0, 0, 0, 0), 1);
        Check.due("drop(0, 9)", x.drop(0, 9), 9);
    }

    @Sentence(promise = NINE, says = "The question has no atoms and spans", edge = "the answers of the latest run() stay")
    private static void answersStay() {
        VirtualRewrite x = Samples.answers(10);
        x.span(0, 3, 4);
        x.run();
        x.clear();
        Check.due("value(1, 0)", x.value(1, 0), 10004);
        Check.due("found(1, 0)", x.found(1, 0), 1);
        Check.due("value(2, 0)", x.value(2, 0), BAD);
        Check.dueThrow("value(0, 2)", x, 0, 2);
    }
}
