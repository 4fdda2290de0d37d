import java.util.ArrayList;
import java.util.Comparator;
import java.util.HashSet;
import java.util.List;
import java.util.Map;
import java.util.Set;
import java.util.TreeMap;

/**
 * What the document asks, told in another way: triples are made and matched one by one, without
 * slots, without leaving anything out.
 */
final class Triples {
    static final int BAD = -1;
    static final int FULL = -2;
    static final int LARGE = -3;
    static final int NO = -4;

    private static final Comparator<List<Integer>> BY_CODES = (a, b) -> {
        for (int i = 0; i < a.size(); i++) {
            int c = Integer.compare(a.get(i), b.get(i));
            if (c != 0) {
                return c;
            }
        }
        return 0;
    };

    private final List<List<int[]>> tables = new ArrayList<>();
    private final Set<Integer> keys = new HashSet<>();
    private final List<int[]> mappings = new ArrayList<>();
    private final List<int[]> atoms = new ArrayList<>();
    private final List<int[]> spans = new ArrayList<>();
    private final List<Integer> asked = new ArrayList<>();
    private final List<List<Integer>> answers = new ArrayList<>();
    private final List<List<Integer>> finders = new ArrayList<>();

    Triples() {
        for (int i = 0; i < 4; i++) {
            tables.add(new ArrayList<>());
        }
    }

    int key(int table, int column, boolean is) {
        if (table < 0 || table > 3 || column < 0 || column > 2) {
            return BAD;
        }
        int name = 3 * table + column;
        if (keys.contains(name) == is) {
            return 0;
        }
        if (!is) {
            keys.remove(name);
            return 1;
        }
        Set<Integer> numbers = new HashSet<>();
        for (int[] r : tables.get(table)) {
            if (!numbers.add(r[column])) {
                return NO;
            }
        }
        keys.add(name);
        return 1;
    }

    int row(int table, int... numbers) {
        if (table < 0 || table > 3) {
            return BAD;
        }
        for (int n : numbers) {
            if (n < 0 || n > 9999) {
                return BAD;
            }
        }
        for (int[] r : tables.get(table)) {
            for (int column = 0; column < 3; column++) {
                if (keys.contains(3 * table + column) && r[column] == numbers[column]) {
                    return NO;
                }
            }
        }
        if (tables.get(table).size() == 20) {
            return FULL;
        }
        tables.get(table).add(numbers.clone());
        return tables.get(table).size();
    }

    int drop(int table, int i) {
        if (table < 0 || table > 3 || i < 0 || i >= tables.get(table).size()) {
            return BAD;
        }
        tables.get(table).remove(i);
        return tables.get(table).size();
    }

    int mapping(int... m) {
        int[] limits = {4, 8, 6, 3, 6, 3};
        for (int i = 0; i < 6; i++) {
            if (m[i] < 0 || m[i] >= limits[i]) {
                return BAD;
            }
        }
        if (mappings.size() == 12) {
            return FULL;
        }
        mappings.add(m.clone());
        return mappings.size() - 1;
    }

    /** The different triples of one mapping: predicate, subject's code, object's code. */
    private Set<List<Integer>> triplesOf(int[] m) {
        Set<List<Integer>> all = new HashSet<>();
        for (int[] r : tables.get(m[0])) {
            all.add(List.of(m[1], m[2] * 10000 + r[m[3]], m[4] * 10000 + r[m[5]]));
        }
        return all;
    }

    int triples() {
        Set<List<Integer>> all = new HashSet<>();
        for (int[] m : mappings) {
            all.addAll(triplesOf(m));
        }
        return all.size();
    }

    int atom(int predicate, int subject, int object) {
        if (predicate < 0 || predicate > 7 || subject < -6 || subject > 59999 || object < -6 || object > 59999) {
            return BAD;
        }
        if (atoms.size() == 4) {
            return FULL;
        }
        atoms.add(new int[] {predicate, subject, object});
        return atoms.size();
    }

    int span(int variable, int from, int to) {
        if (variable < 0 || variable > 5) {
            return BAD;
        }
        if (spans.size() == 4) {
            return FULL;
        }
        spans.add(new int[] {variable, from, to});
        return spans.size();
    }

    int clear() {
        int had = atoms.size();
        atoms.clear();
        spans.clear();
        return had;
    }

    private boolean isDropped(int[] union) {
        Map<Integer, Integer> templates = new TreeMap<>();
        for (int a = 0; a < atoms.size(); a++) {
            for (int place = 0; place < 2; place++) {
                int told = atoms.get(a)[1 + place];
                int template = mappings.get(union[a])[2 + 2 * place];
                if (told >= 0 && told / 10000 != template) {
                    return true;
                }
                if (told < 0 && templates.getOrDefault(told, template) != template) {
                    return true;
                }
                templates.put(told, template);
            }
        }
        return false;
    }

    /** All that are not dropped, however many. */
    private List<int[]> allUnions() {
        List<int[]> all = new ArrayList<>();
        int n = mappings.size();
        int ways = 1;
        for (int a = 0; a < atoms.size(); a++) {
            ways *= n;
        }
        for (int way = 0; way < ways; way++) {
            int[] union = new int[atoms.size()];
            int rest = way;
            boolean fits = true;
            for (int a = atoms.size() - 1; a >= 0; a--) {
                union[a] = rest % n;
                rest /= n;
                fits &= mappings.get(union[a])[1] == atoms.get(a)[0];
            }
            if (fits && !isDropped(union)) {
                all.add(union);
            }
        }
        return all;
    }

    int unions() {
        if (atoms.isEmpty()) {
            return BAD;
        }
        int n = allUnions().size();
        return n > 150 ? LARGE : n;
    }

    private boolean areOfOneRow(int[] union, int a, int b) {
        int[] m = mappings.get(union[a]);
        int[] n = mappings.get(union[b]);
        boolean one = false;
        for (int i = 0; i < 2; i++) {
            for (int j = 0; j < 2; j++) {
                one |= m[0] == n[0] && m[3 + 2 * i] == n[3 + 2 * j] && keys.contains(3 * m[0] + m[3 + 2 * i])
                        && atoms.get(a)[1 + i] == atoms.get(b)[1 + j];
            }
        }
        return one;
    }

    private List<Integer> slots(int[] union) {
        List<Integer> slots = new ArrayList<>();
        int next = 0;
        for (int a = 0; a < atoms.size(); a++) {
            int slot = -1;
            for (int b = a - 1; b >= 0; b--) {
                if (areOfOneRow(union, a, b)) {
                    slot = slots.get(b);
                }
            }
            slots.add(slot < 0 ? next++ : slot);
        }
        return slots;
    }

    int union(int i, int what) {
        if (i < 0 || what < 0 || what > 8 || atoms.isEmpty() || what < 8 && what % 4 >= atoms.size()) {
            return BAD;
        }
        List<int[]> all = allUnions();
        if (all.size() > 150) {
            return LARGE;
        }
        if (i >= all.size()) {
            return BAD;
        }
        if (what < 4) {
            return all.get(i)[what];
        }
        List<Integer> slots = slots(all.get(i));
        return what < 8 ? slots.get(what - 4) : new HashSet<>(slots).size();
    }

    int estimate(int i) {
        if (i < 0 || atoms.isEmpty()) {
            return BAD;
        }
        List<int[]> all = allUnions();
        if (all.size() > 150) {
            return LARGE;
        }
        if (i >= all.size()) {
            return BAD;
        }
        List<Integer> slots = slots(all.get(i));
        int product = 1;
        for (int a = 0; a < slots.size(); a++) {
            if (slots.indexOf(slots.get(a)) == a) {
                product *= tables.get(mappings.get(all.get(i)[a])[0]).size();
            }
        }
        return product;
    }

    private boolean bind(Map<Integer, Integer> codes, int told, int code) {
        if (told >= 0) {
            return told == code;
        }
        int variable = -1 - told;
        for (int[] s : spans) {
            if (s[0] == variable && (code % 10000 < s[1] || code % 10000 > s[2])) {
                return false;
            }
        }
        Integer was = codes.putIfAbsent(variable, code);
        return was == null || was == code;
    }

    /** Stops when there are more than 300, as then nothing of it is told. */
    private void match(List<Set<List<Integer>>> sources, int at, Map<Integer, Integer> codes, Set<List<Integer>> into) {
        if (into.size() > 300) {
            return;
        }
        if (at == sources.size()) {
            into.add(new ArrayList<>(codes.values()));
            return;
        }
        for (List<Integer> t : sources.get(at)) {
            Map<Integer, Integer> more = new TreeMap<>(codes);
            if (bind(more, atoms.get(at)[1], t.get(1)) && bind(more, atoms.get(at)[2], t.get(2))) {
                match(sources, at + 1, more, into);
            }
        }
    }

    /** The answers that all triples together give, without any union. */
    private Set<List<Integer>> answersOfTriples() {
        List<Set<List<Integer>>> sources = new ArrayList<>();
        for (int[] a : atoms) {
            Set<List<Integer>> all = new HashSet<>();
            for (int[] m : mappings) {
                if (m[1] == a[0]) {
                    all.addAll(triplesOf(m));
                }
            }
            sources.add(all);
        }
        Set<List<Integer>> got = new HashSet<>();
        match(sources, 0, new TreeMap<>(), got);
        return got;
    }

    private void findBy(int number, int[] union, Map<List<Integer>, List<Integer>> by) {
        List<Set<List<Integer>>> sources = new ArrayList<>();
        for (int m : union) {
            sources.add(triplesOf(mappings.get(m)));
        }
        Set<List<Integer>> got = new HashSet<>();
        match(sources, 0, new TreeMap<>(), got);
        for (List<Integer> answer : got) {
            by.computeIfAbsent(answer, k -> new ArrayList<>()).add(number);
        }
    }

    int run() {
        asked.clear();
        answers.clear();
        finders.clear();
        if (atoms.isEmpty()) {
            return BAD;
        }
        List<int[]> all = allUnions();
        if (all.size() > 150) {
            return LARGE;
        }
        Set<List<Integer>> due = answersOfTriples();
        if (due.size() > 300) {
            return LARGE;
        }
        Map<List<Integer>, List<Integer>> by = new TreeMap<>(BY_CODES);
        for (int i = 0; i < all.size(); i++) {
            findBy(i, all.get(i), by);
        }
        if (!by.keySet().equals(due)) {
            throw new AssertionError("the unions do not give what the triples give");
        }
        answers.addAll(by.keySet());
        finders.addAll(by.values());
        for (int variable = 0; variable < 6; variable++) {
            for (int[] a : atoms) {
                if ((a[1] == -1 - variable || a[2] == -1 - variable) && !asked.contains(variable)) {
                    asked.add(variable);
                }
            }
        }
        return answers.size();
    }

    /** Integer.MIN_VALUE where an exception is due. */
    int value(int i, int variable) {
        if (i < 0 || i >= answers.size() || variable < 0 || variable > 5) {
            return BAD;
        }
        return asked.contains(variable) ? answers.get(i).get(asked.indexOf(variable)) : Integer.MIN_VALUE;
    }

    int found(int i, int what) {
        if (i < 0 || i >= answers.size() || what < 0 || what > 1) {
            return BAD;
        }
        return what == 0 ? finders.get(i).size() : finders.get(i).get(0);
    }
}
