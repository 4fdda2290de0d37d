/** Promises 5 and 6: mapping, triples. */
public final class MappingsTest {
    private static final int BAD = VirtualRewrite.BAD;
    private static final int FULL = VirtualRewrite.FULL;

    public static void main(String[] args) {
        numbersAndFull();
        wrong();
        triplesAreDifferent();
        triplesFollowRows();
        triplesAtMost();
        Check.end();
    }

    private static void numbersAndFull() {
        VirtualRewrite x = new VirtualRewrite();
        for (int i = 0; i < 12; i++) {
            Check.due("mapping " + i, x.mapping(3, 7, 5, 2, 5, 2), i);
        }
        Check.due("mapping 13", x.mapping(0, 0, 0, 0, 0, 0), FULL);
        Check.due("BAD before FULL", x.mapping(0, 0, 0, 0, 0, 3), BAD);
        Check.due("clear leaves mappings", x.clear() + x.mapping(0, 0, 0, 0, 0, 0), FULL);
    }

    private static void wrong() {
        VirtualRewrite x = new VirtualRewrite();
        int[] limits = {4, 8, 6, 3, 6, 3};
        for (int at = 0; at < 6; at++) {
            int[] wrongs = {Integer.MIN_VALUE, -1, limits[at], Integer.MAX_VALUE};
            for (int w : wrongs) {
                int[] a = new int[6];
                a[at] = w;
                Check.due("mapping with " + w + " at " + at, x.mapping(a[0], a[1], a[2], a[3], a[4], a[5]), BAD);
            }
        }
        Check.due("BAD left no mapping", x.mapping(3, 7, 5, 2, 5, 2), 0);
    }

    private static void triplesAreDifferent() {
        VirtualRewrite x = new VirtualRewrite();
        x.row(0, 1, 2, 3);
        x.row(0, 1, 2, 4);
        Check.due("rows alone make no triple", x.triples(), 0);
        x.mapping(0, 0, 0, 0, 0, 1);
        Check.due("rows alike where it is seen", x.triples(), 1);
        x.mapping(0, 0, 0, 0, 0, 1);
        Check.due("a mapping twice", x.triples(), 1);
        x.mapping(0, 1, 0, 0, 0, 1);
        Check.due("another predicate", x.triples(), 2);
        x.mapping(0, 0, 1, 0, 0, 1);
        Check.due("another template of the subject", x.triples(), 3);
        x.mapping(0, 0, 0, 0, 1, 1);
        Check.due("another template of the object", x.triples(), 4);
        x.mapping(0, 0, 0, 1, 0, 0);
        Check.due("subject and object changed", x.triples(), 5);
        x.mapping(0, 0, 0, 0, 0, 2);
        Check.due("another column", x.triples(), 7);
        x.row(1, 9, 1, 2);
        x.mapping(1, 0, 0, 1, 0, 2);
        Check.due("the same triple from another table", x.triples(), 7);
    }

    private static void triplesFollowRows() {
        VirtualRewrite x = new VirtualRewrite();
        x.mapping(2, 3, 4, 1, 5, 1);
        Check.due("no row", x.triples(), 0);
        x.row(2, 0, 9999, 0);
        x.row(2, 0, 0, 0);
        Check.due("two", x.triples(), 2);
        x.row(2, 5, 0, 5);
        Check.due("still two", x.triples(), 2);
        x.drop(2, 1);
        Check.due("the other row still has it", x.triples(), 2);
        x.drop(2, 1);
        Check.due("now it is gone", x.triples(), 1);
    }

    private static void triplesAtMost() {
        VirtualRewrite x = new VirtualRewrite();
        for (int i = 0; i < 20; i++) {
            x.row(0, 9999 - i, i, 500);
        }
        for (int i = 0; i < 12; i++) {
            x.mapping(0, i % 6, i / 6, 0, 5, 1);
        }
        Check.due("twelve times twenty", x.triples(), 240);
        Check.due("asked again", x.triples(), 240);
    }
}
