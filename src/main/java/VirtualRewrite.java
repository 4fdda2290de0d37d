/**
 * Tables seen as triples by mappings, and questions over these triples that are rewritten to
 * unions of rows of the tables.
 *
 * <p>All arrays and objects are made with the object itself and used again by every call.
 */
public final class VirtualRewrite {
    public static final int BAD = -1;
    public static final int FULL = -2;
    public static final int LARGE = -3;
    public static final int NO = -4;

    private static final int TABLES = 4;
    private static final int COLUMNS = 3;
    private static final int ROWS = 20;
    private static final int NUMBERS = 10000;
    private static final int TEMPLATES = 6;
    private static final int CODES = TEMPLATES * NUMBERS;
    private static final int MAPPINGS = 12;
    private static final int PREDICATES = 8;
    private static final int ATOMS = 4;
    private static final int PLACES = 2;
    private static final int VARIABLES = 6;
    private static final int SPANS = 4;
    private static final int UNIONS = 150;
    private static final int ANSWERS = 300;

    private final Catalog catalog;
    private final Question question;
    private final Rewriting rewriting;
    private final Slots slots;
    private final Answers answers;
    private final Finder finder;

    public VirtualRewrite() {
        catalog = new Catalog();
        question = new Question();
        rewriting = new Rewriting(catalog, question);
        slots = new Slots(catalog, question, rewriting);
        answers = new Answers();
        finder = new Finder(question, rewriting, slots, answers);
    }

    public int key(int table, int column, boolean is) {
        if (!isBelow(table, TABLES) || !isBelow(column, COLUMNS)) {
            return BAD;
        }
        Table changed = catalog.tables[table];
        if (changed.isKey[column] == is) {
            return 0;
        }
        if (is && changed.repeats(column)) {
            return NO;
        }
        changed.isKey[column] = is;
        return 1;
    }

    public int row(int table, int a, int b, int c) {
        if (!isBelow(table, TABLES) || !isBelow(a, NUMBERS) || !isBelow(b, NUMBERS) || !isBelow(c, NUMBERS)) {
            return BAD;
        }
        Table grown = catalog.tables[table];
        if (grown.refuses(0, a) || grown.refuses(1, b) || grown.refuses(2, c)) {
            return NO;
        }
        if (grown.size >= ROWS) {
            return FULL;
        }
        grown.append(a, b, c);
        return grown.size;
    }

    public int drop(int table, int i) {
        if (!isBelow(table, TABLES) || !isBelow(i, catalog.tables[table].size)) {
            return BAD;
        }
        catalog.tables[table].remove(i);
        return catalog.tables[table].size;
    }

    public int mapping(int table, int predicate, int subject, int column, int object, int other) {
        if (!isBelow(table, TABLES) || !isBelow(predicate, PREDICATES)) {
            return BAD;
        }
        if (!isBelow(subject, TEMPLATES) || !isBelow(column, COLUMNS)) {
            return BAD;
        }
        if (!isBelow(object, TEMPLATES) || !isBelow(other, COLUMNS)) {
            return BAD;
        }
        if (catalog.size >= MAPPINGS) {
            return FULL;
        }
        Mapping added = catalog.mappings[catalog.size];
        added.table = table;
        added.predicate = predicate;
        added.describe(0, subject, column);
        added.describe(1, object, other);
        catalog.size++;
        rewriting.forget();
        return catalog.size - 1;
    }

    public int triples() {
        return catalog.countTriples();
    }

    public int atom(int predicate, int subject, int object) {
        if (!isBelow(predicate, PREDICATES) || !isPlace(subject) || !isPlace(object)) {
            return BAD;
        }
        if (question.atoms >= ATOMS) {
            return FULL;
        }
        question.append(predicate, subject, object);
        rewriting.forget();
        return question.atoms;
    }

    public int span(int variable, int from, int to) {
        if (!isBelow(variable, VARIABLES)) {
            return BAD;
        }
        if (question.spans >= SPANS) {
            return FULL;
        }
        question.narrow(variable, from, to);
        return question.spans;
    }

    public int clear() {
        int had = question.atoms;
        question.reset();
        rewriting.forget();
        return had;
    }

    public int unions() {
        if (question.atoms == 0) {
            return BAD;
        }
        rewriting.refresh();
        return rewriting.large ? LARGE : rewriting.size;
    }

    public int union(int i, int what) {
        if (!isAsked(what)) {
            return BAD;
        }
        int trouble = troubleWith(i);
        if (trouble != 0) {
            return trouble;
        }
        if (what < ATOMS) {
            return rewriting.chosen(i, what);
        }
        slots.assign(i);
        return what < 2 * ATOMS ? slots.slotOf[what - ATOMS] : slots.count;
    }

    public int estimate(int i) {
        int trouble = troubleWith(i);
        if (trouble != 0) {
            return trouble;
        }
        slots.assign(i);
        return slots.productOfRows(i);
    }

    public int run() {
        answers.begin(question.variables());
        if (question.atoms == 0) {
            return BAD;
        }
        rewriting.refresh();
        if (rewriting.large) {
            return LARGE;
        }
        for (int i = 0; i < rewriting.size && !answers.large; i++) {
            finder.find(i);
        }
        if (answers.large) {
            answers.size = 0;
            return LARGE;
        }
        return answers.size;
    }

    public int value(int i, int variable) throws IllegalStateException {
        if (!isBelow(i, answers.size) || !isBelow(variable, VARIABLES)) {
            return BAD;
        }
        if (!has(answers.variables, variable)) {
            throw new IllegalStateException("the question that was run has not that variable");
        }
        return answers.code(i, variable);
    }

    public int found(int i, int what) {
        if (!isBelow(i, answers.size) || !isBelow(what, 2)) {
            return BAD;
        }
        return what == 0 ? answers.finders(i) : answers.firstFinder(i);
    }

    /** Whether what names an atom that the question has, or the number of slots. */
    private boolean isAsked(int what) {
        if (what == 2 * ATOMS) {
            return true;
        }
        return isBelow(what, 2 * ATOMS) && what % ATOMS < question.atoms;
    }

    /** BAD before LARGE, as the document lists them: a negative number is never a union's. */
    private int troubleWith(int union) {
        if (union < 0 || question.atoms == 0) {
            return BAD;
        }
        rewriting.refresh();
        if (rewriting.large) {
            return LARGE;
        }
        return union < rewriting.size ? 0 : BAD;
    }

    private static boolean isBelow(int x, int limit) {
        return x >= 0 && x < limit;
    }

    private static boolean isPlace(int told) {
        return told >= -VARIABLES && told < CODES;
    }

    private static boolean isVariable(int told) {
        return told < 0;
    }

    private static int variableOf(int told) {
        return -1 - told;
    }

    private static boolean has(int variables, int variable) {
        return (variables >> variable & 1) != 0;
    }

    private static int with(int variables, int variable) {
        return variables | 1 << variable;
    }

    /** The rows of one table, in the order in which they came, and which columns are keys. */
    private static final class Table {
        final int[] cells = new int[ROWS * COLUMNS];
        final boolean[] isKey = new boolean[COLUMNS];
        int size = 0;

        int cell(int row, int column) {
            return cells[row * COLUMNS + column];
        }

        boolean holds(int column, int number, int rows) {
            for (int row = 0; row < rows; row++) {
                if (cell(row, column) == number) {
                    return true;
                }
            }
            return false;
        }

        boolean repeats(int column) {
            for (int row = 1; row < size; row++) {
                if (holds(column, cell(row, column), row)) {
                    return true;
                }
            }
            return false;
        }

        boolean refuses(int column, int number) {
            return isKey[column] && holds(column, number, size);
        }

        void append(int a, int b, int c) {
            int start = size * COLUMNS;
            cells[start] = a;
            cells[start + 1] = b;
            cells[start + 2] = c;
            size++;
        }

        void remove(int row) {
            int behind = size - row - 1;
            System.arraycopy(cells, (row + 1) * COLUMNS, cells, row * COLUMNS, behind * COLUMNS);
            size--;
        }
    }

    /** How a row of a table becomes a triple; place 0 is the subject, place 1 the object. */
    private static final class Mapping {
        final int[] templates = new int[PLACES];
        final int[] columns = new int[PLACES];
        int table = 0;
        int predicate = 0;

        void describe(int place, int template, int column) {
            templates[place] = template;
            columns[place] = column;
        }
    }

    /** The tables and the mappings over them. */
    private static final class Catalog {
        final Table[] tables = new Table[TABLES];
        final Mapping[] mappings = new Mapping[MAPPINGS];
        final long[] triples = new long[MAPPINGS * ROWS];
        int size = 0;
        int tripleCount = 0;

        Catalog() {
            for (int i = 0; i < TABLES; i++) {
                tables[i] = new Table();
            }
            for (int i = 0; i < MAPPINGS; i++) {
                mappings[i] = new Mapping();
            }
        }

        Table tableOf(Mapping mapping) {
            return tables[mapping.table];
        }

        int countTriples() {
            tripleCount = 0;
            for (int i = 0; i < size; i++) {
                int rows = tableOf(mappings[i]).size;
                for (int row = 0; row < rows; row++) {
                    keepTriple(packedTriple(mappings[i], row));
                }
            }
            return tripleCount;
        }

        long packedTriple(Mapping mapping, int row) {
            long packed = mapping.predicate;
            for (int place = 0; place < PLACES; place++) {
                int number = tableOf(mapping).cell(row, mapping.columns[place]);
                packed = packed * CODES + mapping.templates[place] * NUMBERS + number;
            }
            return packed;
        }

        /** Kept in order, so that a triple that is there already is seen at once. */
        void keepTriple(long packed) {
            int low = 0;
            int high = tripleCount;
            while (low < high) {
                int middle = (low + high) >>> 1;
                if (triples[middle] < packed) {
                    low = middle + 1;
                } else {
                    high = middle;
                }
            }
            if (low < tripleCount && triples[low] == packed) {
                return;
            }
            System.arraycopy(triples, low, triples, low + 1, tripleCount - low);
            triples[low] = packed;
            tripleCount++;
        }
    }

    /** The atoms, and what all spans of a variable together leave of its numbers. */
    private static final class Question {
        final int[] predicates = new int[ATOMS];
        final int[] places = new int[ATOMS * PLACES];
        final int[] least = new int[VARIABLES];
        final int[] most = new int[VARIABLES];
        int atoms = 0;
        int spans = 0;

        Question() {
            for (int variable = 0; variable < VARIABLES; variable++) {
                most[variable] = NUMBERS - 1;
            }
        }

        void append(int predicate, int subject, int object) {
            predicates[atoms] = predicate;
            places[atoms * PLACES] = subject;
            places[atoms * PLACES + 1] = object;
            atoms++;
        }

        void narrow(int variable, int from, int to) {
            least[variable] = Math.max(least[variable], from);
            most[variable] = Math.min(most[variable], to);
            spans++;
        }

        void reset() {
            atoms = 0;
            spans = 0;
            for (int variable = 0; variable < VARIABLES; variable++) {
                least[variable] = 0;
                most[variable] = NUMBERS - 1;
            }
        }

        int told(int atom, int place) {
            return places[atom * PLACES + place];
        }

        boolean allows(int variable, int number) {
            return number >= least[variable] && number <= most[variable];
        }

        int variables() {
            int variables = 0;
            for (int i = 0; i < atoms * PLACES; i++) {
                if (isVariable(places[i])) {
                    variables = with(variables, variableOf(places[i]));
                }
            }
            return variables;
        }
    }

    /** The unions of the question that are not dropped, in their order. */
    private static final class Rewriting {
        static final int DROPPED = -1;

        final Catalog catalog;
        final Question question;
        final int[] kept = new int[UNIONS * ATOMS];
        final int[] trial = new int[ATOMS];
        final int[] templates = new int[VARIABLES];
        int size = 0;
        boolean large = false;
        boolean known = false;

        Rewriting(Catalog catalog, Question question) {
            this.catalog = catalog;
            this.question = question;
        }

        int chosen(int union, int atom) {
            return kept[union * ATOMS + atom];
        }

        Mapping mappingOf(int union, int atom) {
            return catalog.mappings[chosen(union, atom)];
        }

        Table tableOf(int union, int atom) {
            return catalog.tableOf(mappingOf(union, atom));
        }

        void forget() {
            known = false;
        }

        /** Unions hang on atoms and mappings alone, so they stay known while only rows change. */
        void refresh() {
            if (known) {
                return;
            }
            size = 0;
            large = false;
            extend(0, 0);
            known = true;
        }

        /** The variables are those of the atoms before, whose templates are settled. */
        private void extend(int atom, int variables) {
            if (atom >= question.atoms) {
                keep();
                return;
            }
            for (int i = 0; i < catalog.size && !large; i++) {
                if (catalog.mappings[i].predicate == question.predicates[atom]) {
                    int settled = settle(atom, catalog.mappings[i], variables);
                    if (settled != DROPPED) {
                        trial[atom] = i;
                        extend(atom + 1, settled);
                    }
                }
            }
        }

        private void keep() {
            if (size >= UNIONS) {
                large = true;
                return;
            }
            System.arraycopy(trial, 0, kept, size * ATOMS, ATOMS);
            size++;
        }

        /** The variables with those of this atom, or DROPPED if a template can't meet. */
        private int settle(int atom, Mapping mapping, int variables) {
            int settled = variables;
            for (int place = 0; place < PLACES; place++) {
                int told = question.told(atom, place);
                int template = mapping.templates[place];
                if (!isVariable(told)) {
                    if (told / NUMBERS != template) {
                        return DROPPED;
                    }
                } else if (!has(settled, variableOf(told))) {
                    templates[variableOf(told)] = template;
                    settled = with(settled, variableOf(told));
                } else if (templates[variableOf(told)] != template) {
                    return DROPPED;
                }
            }
            return settled;
        }
    }

    /** Which atoms of one union share a row. */
    private static final class Slots {
        final Catalog catalog;
        final Question question;
        final Rewriting rewriting;
        final int[] slotOf = new int[ATOMS];
        int count = 0;

        Slots(Catalog catalog, Question question, Rewriting rewriting) {
            this.catalog = catalog;
            this.question = question;
            this.rewriting = rewriting;
        }

        /** Done anew at each call, as keys come and go. */
        void assign(int union) {
            count = 0;
            for (int atom = 0; atom < question.atoms; atom++) {
                int partner = leastOfOneRow(union, atom);
                if (partner < atom) {
                    slotOf[atom] = slotOf[partner];
                } else {
                    slotOf[atom] = count;
                    count++;
                }
            }
        }

        /** The atom itself, if none before it is of one row with it. */
        private int leastOfOneRow(int union, int atom) {
            for (int before = 0; before < atom; before++) {
                if (areOfOneRow(union, before, atom)) {
                    return before;
                }
            }
            return atom;
        }

        private boolean areOfOneRow(int union, int one, int two) {
            Mapping first = rewriting.mappingOf(union, one);
            Mapping second = rewriting.mappingOf(union, two);
            if (first.table != second.table) {
                return false;
            }
            boolean[] isKey = catalog.tableOf(first).isKey;
            for (int i = 0; i < PLACES; i++) {
                for (int j = 0; j < PLACES; j++) {
                    boolean isOneKey = first.columns[i] == second.columns[j] && isKey[first.columns[i]];
                    if (isOneKey && question.told(one, i) == question.told(two, j)) {
                        return true;
                    }
                }
            }
            return false;
        }

        int productOfRows(int union) {
            int product = 1;
            int seen = 0;
            for (int atom = 0; atom < question.atoms; atom++) {
                if (slotOf[atom] == seen) {
                    product *= rewriting.tableOf(union, atom).size;
                    seen++;
                }
            }
            return product;
        }
    }

    /** The different rows of the latest run; order holds their places in the other arrays, sorted. */
    private static final class Answers {
        final int[] codes = new int[ANSWERS * VARIABLES];
        final int[] order = new int[ANSWERS];
        final int[] finders = new int[ANSWERS];
        final int[] firsts = new int[ANSWERS];
        int size = 0;
        int variables = 0;
        boolean large = false;

        void begin(int asked) {
            size = 0;
            variables = asked;
            large = false;
        }

        int code(int i, int variable) {
            return codes[order[i] * VARIABLES + variable];
        }

        int finders(int i) {
            return finders[order[i]];
        }

        int firstFinder(int i) {
            return firsts[order[i]];
        }

        /** A union must tell each of its answers once, else finders would count it twice. */
        void take(int[] told, int union) {
            int at = firstNotBefore(told);
            if (at < size && compare(at, told) == 0) {
                finders[order[at]]++;
            } else if (size >= ANSWERS) {
                large = true;
            } else {
                insert(at, told, union);
            }
        }

        private void insert(int at, int[] told, int union) {
            System.arraycopy(told, 0, codes, size * VARIABLES, VARIABLES);
            finders[size] = 1;
            firsts[size] = union;
            System.arraycopy(order, at, order, at + 1, size - at);
            order[at] = size;
            size++;
        }

        private int firstNotBefore(int[] told) {
            int low = 0;
            int high = size;
            while (low < high) {
                int middle = (low + high) >>> 1;
                if (compare(middle, told) < 0) {
                    low = middle + 1;
                } else {
                    high = middle;
                }
            }
            return low;
        }

        private int compare(int i, int[] told) {
            for (int variable = 0; variable < VARIABLES; variable++) {
                int difference = code(i, variable) - told[variable];
                if (difference != 0) {
                    return difference;
                }
            }
            return 0;
        }
    }

    /** Gives rows to the slots of one union. */
    private static final class Finder {
        static final int MET = -1;
        static final int NOWHERE = -1;

        final Question question;
        final Rewriting rewriting;
        final Slots slots;
        final Answers answers;
        /** By slot: one of its atoms, its variables, each variable's column, the rows worth a try. */
        final int[] atomOf = new int[ATOMS];
        final int[] variables = new int[ATOMS];
        final int[] columns = new int[ATOMS * VARIABLES];
        final int[] rows = new int[ATOMS * ROWS];
        final int[] rowCounts = new int[ATOMS];
        final int[] order = new int[ATOMS];
        /** By variable: what the union settles, and what the rows given so far settle. */
        final int[] templates = new int[VARIABLES];
        final int[] codes = new int[VARIABLES];
        int union = 0;

        Finder(Question question, Rewriting rewriting, Slots slots, Answers answers) {
            this.question = question;
            this.rewriting = rewriting;
            this.slots = slots;
            this.answers = answers;
        }

        void find(int number) {
            union = number;
            slots.assign(number);
            layOut();
            boolean allHaveRows = true;
            for (int slot = 0; slot < slots.count && allHaveRows; slot++) {
                gatherRows(slot);
                allHaveRows = rowCounts[slot] > 0;
            }
            if (allHaveRows) {
                orderSlots();
                search(0, 0);
            }
        }

        private void layOut() {
            for (int variable = 0; variable < VARIABLES; variable++) {
                codes[variable] = 0;
            }
            for (int i = 0; i < ATOMS * VARIABLES; i++) {
                columns[i] = NOWHERE;
            }
            for (int slot = 0; slot < ATOMS; slot++) {
                variables[slot] = 0;
            }
            for (int atom = 0; atom < question.atoms; atom++) {
                atomOf[slots.slotOf[atom]] = atom;
                for (int place = 0; place < PLACES; place++) {
                    if (isVariable(question.told(atom, place))) {
                        layOutVariable(atom, place);
                    }
                }
            }
        }

        private void layOutVariable(int atom, int place) {
            int variable = variableOf(question.told(atom, place));
            int slot = slots.slotOf[atom];
            Mapping mapping = rewriting.mappingOf(union, atom);
            templates[variable] = mapping.templates[place];
            columns[slot * VARIABLES + variable] = mapping.columns[place];
            variables[slot] = with(variables[slot], variable);
        }

        private Table tableOf(int slot) {
            return rewriting.tableOf(union, atomOf[slot]);
        }

        private void gatherRows(int slot) {
            Table table = tableOf(slot);
            int count = 0;
            for (int row = 0; row < table.size; row++) {
                if (suits(slot, table, row) && !isTold(slot, table, row, count)) {
                    rows[slot * ROWS + count] = row;
                    count++;
                }
            }
            rowCounts[slot] = count;
        }

        private boolean suits(int slot, Table table, int row) {
            for (int atom = 0; atom < question.atoms; atom++) {
                if (slots.slotOf[atom] == slot && !suitsAtom(atom, table, row)) {
                    return false;
                }
            }
            return true;
        }

        private boolean suitsAtom(int atom, Table table, int row) {
            Mapping mapping = rewriting.mappingOf(union, atom);
            for (int place = 0; place < PLACES; place++) {
                int told = question.told(atom, place);
                int number = table.cell(row, mapping.columns[place]);
                if (!isVariable(told)) {
                    if (told % NUMBERS != number) {
                        return false;
                    }
                } else {
                    int variable = variableOf(told);
                    int column = columns[slots.slotOf[atom] * VARIABLES + variable];
                    if (number != table.cell(row, column) || !question.allows(variable, number)) {
                        return false;
                    }
                }
            }
            return true;
        }

        /** Rows alike in all that is asked would only tell the same answers again. */
        private boolean isTold(int slot, Table table, int row, int count) {
            for (int i = 0; i < count; i++) {
                if (areAlike(slot, table, row, rows[slot * ROWS + i])) {
                    return true;
                }
            }
            return false;
        }

        private boolean areAlike(int slot, Table table, int one, int two) {
            for (int variable = 0; variable < VARIABLES; variable++) {
                int column = columns[slot * VARIABLES + variable];
                if (column != NOWHERE && table.cell(one, column) != table.cell(two, column)) {
                    return false;
                }
            }
            return true;
        }

        /** What hangs most on slots before comes next, so that what can't meet is seen early. */
        private void orderSlots() {
            for (int i = 0; i < slots.count; i++) {
                order[i] = i;
            }
            int settled = 0;
            for (int i = 0; i < slots.count; i++) {
                int best = i;
                for (int j = i + 1; j < slots.count; j++) {
                    if (isBetter(order[j], order[best], settled)) {
                        best = j;
                    }
                }
                int slot = order[best];
                order[best] = order[i];
                order[i] = slot;
                settled |= variables[slot];
            }
        }

        private boolean isBetter(int one, int two, int settled) {
            int hanging = Integer.bitCount(variables[one] & settled);
            int other = Integer.bitCount(variables[two] & settled);
            return hanging != other ? hanging > other : rowCounts[one] < rowCounts[two];
        }

        /**
         * Answers MET, or the settled variables that all failures hang on: where a slot's own choice
         * is not among them, its other rows would fail alike and are left out.
         */
        private int search(int depth, int settled) {
            if (depth >= slots.count) {
                answers.take(codes, union);
                return MET;
            }
            int slot = order[depth];
            Table table = tableOf(slot);
            int after = settled | variables[slot];
            int blamed = settled & variables[slot];
            boolean met = false;
            for (int i = 0; i < rowCounts[slot] && !answers.large; i++) {
                int row = rows[slot * ROWS + i];
                if (agrees(slot, table, row, settled)) {
                    settleVariables(slot, table, row);
                    int below = search(depth + 1, after);
                    if (below == MET) {
                        met = true;
                    } else if ((below & ~settled) == 0) {
                        return below;
                    } else {
                        blamed |= below;
                    }
                }
            }
            return met ? MET : blamed & settled;
        }

        private boolean agrees(int slot, Table table, int row, int settled) {
            for (int variable = 0; variable < VARIABLES; variable++) {
                int column = columns[slot * VARIABLES + variable];
                if (column != NOWHERE && has(settled, variable)
                        && codes[variable] % NUMBERS != table.cell(row, column)) {
                    return false;
                }
            }
            return true;
        }

        private void settleVariables(int slot, Table table, int row) {
            for (int variable = 0; variable < VARIABLES; variable++) {
                int column = columns[slot * VARIABLES + variable];
                if (column != NOWHERE) {
                    codes[variable] = templates[variable] * NUMBERS + table.cell(row, column);
                }
            }
        }
    }
}
