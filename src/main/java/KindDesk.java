import java.util.Arrays;

/**
 * Types of a logic language worked out for clauses. The words in capitals are those of the
 * document; "kind" stands for TYPE wherever a name of the face must not be used again.
 */
public final class KindDesk {
    public static final int NONE = -1;

    private static final int INT = 0;
    private static final int MOST_TYPES = 24;
    private static final int MOST_CONSTRUCTORS = 100;
    private static final int MOST_FIELDS = 4;
    private static final int MOST_PREDICATES = 60;
    private static final int MOST_DEMANDS = 200;
    private static final int MOST_IN_ROW = 6;
    private static final int NAMES = 200;
    private static final int VARIABLES = 80;

    private static final int SORT_NUMBER = 0;
    private static final int SORT_SAME = 1;
    private static final int SORT_CALL = 2;
    private static final int SORT_FORM = 3;

    private static final int ALL_WELL = 0;
    private static final int FAULT_CLASH = 1;
    private static final int FAULT_WAITS = 2;
    private static final int FAULT_NO_TYPE = 3;

    // Every ROUND but the last gives a GROUP its TYPE, makes two GROUPS one or SETTLES a FORM.
    private static final int MOST_ROUNDS = VARIABLES + VARIABLES + MOST_DEMANDS + 1;

    private final Row row;
    private final Kinds kinds;
    private final Table predicates;
    private final Demands demands;
    private final Solver solver;
    private final Findings findings;

    public KindDesk() {
        row = new Row();
        kinds = new Kinds();
        predicates = new Table(MOST_PREDICATES);
        demands = new Demands();
        solver = new Solver(kinds, predicates, demands);
        findings = new Findings();
    }

    public int type() {
        return kinds.addKind();
    }

    public boolean put(int n) {
        return row.add(n);
    }

    public int constructor(int type, int name) {
        int made = NONE;
        if (kinds.takes(type, name, row)) {
            made = kinds.addConstructor(type, name, row);
        }
        row.clear();
        return made;
    }

    public int predicate() {
        int made = NONE;
        if (row.isBelow(kinds.count())) {
            made = predicates.open();
            if (made != NONE) {
                predicates.appendAll(row);
            }
        }
        row.clear();
        return made;
    }

    public void clause() {
        row.clear();
        demands.clear();
        solver.forget();
        findings.forget();
    }

    public int number(int x) {
        if (!isVariable(x)) {
            return NONE;
        }
        return demands.add(SORT_NUMBER, NONE, x);
    }

    public int same(int x, int y) {
        if (!isVariable(x) || !isVariable(y)) {
            return NONE;
        }
        int made = demands.add(SORT_SAME, NONE, x);
        if (made != NONE) {
            demands.variables.append(y);
        }
        return made;
    }

    public int call(int predicate) {
        int made = NONE;
        if (predicates.length(predicate) == row.size && row.isBelow(VARIABLES)) {
            made = demands.add(SORT_CALL, predicate, NONE);
            if (made != NONE) {
                demands.variables.appendAll(row);
            }
        }
        row.clear();
        return made;
    }

    public int form(int x, int name) {
        int made = NONE;
        if (isVariable(x) && isName(name) && row.size <= MOST_FIELDS && row.isBelow(VARIABLES)) {
            made = demands.add(SORT_FORM, name, x);
            if (made != NONE) {
                demands.variables.appendAll(row);
            }
        }
        row.clear();
        return made;
    }

    public int solve() {
        int fault = solver.run();
        if (fault == ALL_WELL) {
            findings.keep(solver);
        }
        return fault;
    }

    public int told(int what) {
        if (what == 0) {
            return solver.culprit;
        }
        return what == 1 ? solver.rounds : NONE;
    }

    public int typeOf(int x) {
        return findings.kindOf(x);
    }

    public int meant(int demand) {
        return findings.meaningOf(demand);
    }

    public int about(int constructor, int what) {
        switch (what) {
            case 0:
                return kinds.kindOf(constructor);
            case 1:
                return kinds.nameOf(constructor);
            case 2:
                return kinds.fields.length(constructor);
            default:
                return what < 0 ? NONE : kinds.fields.at(constructor, what - 3);
        }
    }

    public int many(int type) {
        return kinds.has(type) ? kinds.constructorsOf(type) : NONE;
    }

    public int constructorOf(int type, int k) {
        return kinds.has(type) ? kinds.pick(type, k) : NONE;
    }

    public int find(int type, int name, int fields) {
        return kinds.search(type, name, fields);
    }

    private static boolean isVariable(int x) {
        return x >= 0 && x < VARIABLES;
    }

    private static boolean isDemand(int demand) {
        return demand >= 0 && demand < MOST_DEMANDS;
    }

    private static boolean isName(int name) {
        return name >= 0 && name < NAMES;
    }

    /** The row that put() fills. */
    private static final class Row {
        private final int[] numbers = new int[MOST_IN_ROW];
        private int size = 0;

        private boolean add(int n) {
            if (size >= MOST_IN_ROW) {
                return false;
            }
            numbers[size] = n;
            size++;
            return true;
        }

        private boolean isBelow(int bound) {
            for (int i = 0; i < size; i++) {
                if (numbers[i] < 0 || numbers[i] >= bound) {
                    return false;
                }
            }
            return true;
        }

        private void clear() {
            size = 0;
        }
    }

    /** Lists as long as the row at most, all in one array so that a desk is made of few objects. */
    private static final class Table {
        private final int[] lengths;
        private final int[] cells;
        private int size = 0;

        private Table(int most) {
            int lists = Math.max(0, most);
            lengths = new int[lists];
            cells = new int[lists * MOST_IN_ROW];
        }

        private int open() {
            if (size >= lengths.length) {
                return NONE;
            }
            lengths[size] = 0;
            size++;
            return size - 1;
        }

        private void append(int n) {
            int last = size - 1;
            if (last < 0 || lengths[last] >= MOST_IN_ROW) {
                return;
            }
            cells[last * MOST_IN_ROW + lengths[last]] = n;
            lengths[last]++;
        }

        private void appendAll(Row row) {
            for (int i = 0; i < row.size; i++) {
                append(row.numbers[i]);
            }
        }

        private int length(int list) {
            return list >= 0 && list < size ? lengths[list] : NONE;
        }

        private int at(int list, int k) {
            if (list < 0 || list >= size || k < 0 || k >= lengths[list]) {
                return NONE;
            }
            return cells[list * MOST_IN_ROW + k];
        }
    }

    /** The TYPES and their CONSTRUCTORS. */
    private static final class Kinds {
        private final int[] owners = new int[MOST_CONSTRUCTORS];
        private final int[] names = new int[MOST_CONSTRUCTORS];
        private final Table fields = new Table(MOST_CONSTRUCTORS);
        private int size = 1;

        private int addKind() {
            if (size >= MOST_TYPES) {
                return NONE;
            }
            size++;
            return size - 1;
        }

        private int count() {
            return size;
        }

        private boolean has(int kind) {
            return kind >= 0 && kind < size;
        }

        private boolean takes(int kind, int name, Row row) {
            return kind != INT && has(kind) && isName(name)
                && row.size <= MOST_FIELDS && row.isBelow(size)
                && search(kind, name, row.size) == NONE;
        }

        private int addConstructor(int kind, int name, Row row) {
            int made = fields.open();
            if (made < 0 || made >= MOST_CONSTRUCTORS) {
                return NONE;
            }
            owners[made] = kind;
            names[made] = name;
            fields.appendAll(row);
            return made;
        }

        private boolean isConstructor(int c) {
            return c >= 0 && c < fields.size && c < MOST_CONSTRUCTORS;
        }

        private int kindOf(int c) {
            return isConstructor(c) ? owners[c] : NONE;
        }

        private int nameOf(int c) {
            return isConstructor(c) ? names[c] : NONE;
        }

        private int constructorsOf(int kind) {
            int many = 0;
            for (int c = 0; c < fields.size; c++) {
                if (kindOf(c) == kind) {
                    many++;
                }
            }
            return many;
        }

        private int pick(int kind, int k) {
            int passed = 0;
            for (int c = 0; c < fields.size; c++) {
                if (kindOf(c) == kind) {
                    if (passed == k) {
                        return c;
                    }
                    passed++;
                }
            }
            return NONE;
        }

        private int search(int kind, int name, int fieldCount) {
            for (int c = 0; c < fields.size; c++) {
                if (kindOf(c) == kind && nameOf(c) == name && fields.length(c) == fieldCount) {
                    return c;
                }
            }
            return NONE;
        }
    }

    /** The DEMANDS of the CLAUSE at work; a FORM's x stands before its other variables. */
    private static final class Demands {
        private final int[] sorts = new int[MOST_DEMANDS];
        // The PREDICATE of a CALL, the NAME of a FORM.
        private final int[] subjects = new int[MOST_DEMANDS];
        private final Table variables = new Table(MOST_DEMANDS);

        private int add(int sort, int subject, int x) {
            int made = variables.open();
            if (!isDemand(made)) {
                return NONE;
            }
            sorts[made] = sort;
            subjects[made] = subject;
            if (x != NONE) {
                variables.append(x);
            }
            return made;
        }

        private int count() {
            return variables.size;
        }

        private int sortOf(int demand) {
            return isDemand(demand) ? sorts[demand] : NONE;
        }

        private int subjectOf(int demand) {
            return isDemand(demand) ? subjects[demand] : NONE;
        }

        private void clear() {
            variables.size = 0;
        }
    }

    /** The GROUPS of one SOLVING. */
    private static final class Groups {
        // A GROUP is known by one of its variables; joining renames, so no chain is ever followed.
        // That number is an index too, so it is looked at wherever it is used as one.
        private final int[] groups = new int[VARIABLES];
        private final int[] groupKinds = new int[VARIABLES];
        private int changes = 0;

        private void scatter() {
            for (int x = 0; x < VARIABLES; x++) {
                groups[x] = x;
            }
            Arrays.fill(groupKinds, NONE);
            changes = 0;
        }

        private int kindOf(int x) {
            return isVariable(x) && isVariable(groups[x]) ? groupKinds[groups[x]] : NONE;
        }

        private boolean allows(int x, int kind) {
            if (!isVariable(x) || !isVariable(groups[x])) {
                return false;
            }
            int now = groupKinds[groups[x]];
            return now == NONE || now == kind;
        }

        /** x GETS a TYPE; false is a CLASH. */
        private boolean give(int x, int kind) {
            if (!isVariable(x) || !isVariable(groups[x])) {
                return false;
            }
            int group = groups[x];
            if (groupKinds[group] == NONE) {
                groupKinds[group] = kind;
                changes++;
            }
            return groupKinds[group] == kind;
        }

        /** x and y JOIN; false is a CLASH. */
        private boolean join(int x, int y) {
            if (!isVariable(x) || !isVariable(y)) {
                return false;
            }
            int kept = groups[x];
            int gone = groups[y];
            if (!isVariable(kept) || !isVariable(gone)) {
                return false;
            }
            if (kept == gone) {
                return true;
            }
            if (groupKinds[kept] == NONE) {
                groupKinds[kept] = groupKinds[gone];
            } else if (groupKinds[gone] != NONE && groupKinds[gone] != groupKinds[kept]) {
                return false;
            }
            for (int z = 0; z < VARIABLES; z++) {
                if (groups[z] == gone) {
                    groups[z] = kept;
                }
            }
            changes++;
            return true;
        }
    }

    /** SOLVES the CLAUSE, and remembers how the latest SOLVING ended. */
    private static final class Solver {
        private final Kinds kinds;
        private final Table predicates;
        private final Demands demands;
        private final Groups groups = new Groups();
        private final int[] meanings = new int[MOST_DEMANDS];
        private int settled = 0;
        private int rounds = NONE;
        private int culprit = NONE;

        private Solver(Kinds kinds, Table predicates, Demands demands) {
            this.kinds = kinds;
            this.predicates = predicates;
            this.demands = demands;
        }

        private void forget() {
            rounds = NONE;
            culprit = NONE;
        }

        private int run() {
            begin();
            int before = NONE;
            while (rounds < MOST_ROUNDS && culprit == NONE && before != changes()) {
                before = changes();
                rounds++;
                culprit = goRound();
            }
            if (culprit != NONE) {
                return FAULT_CLASH;
            }
            culprit = firstWaiting();
            if (culprit != NONE) {
                return FAULT_WAITS;
            }
            culprit = leastWithoutKind();
            return culprit != NONE ? FAULT_NO_TYPE : ALL_WELL;
        }

        private void begin() {
            groups.scatter();
            Arrays.fill(meanings, NONE);
            settled = 0;
            rounds = 0;
            culprit = NONE;
        }

        private int changes() {
            return groups.changes + settled;
        }

        /** The DEMAND that CLASHES, or NONE. */
        private int goRound() {
            for (int demand = 0; demand < demands.count(); demand++) {
                if (!meet(demand)) {
                    return demand;
                }
            }
            return NONE;
        }

        private boolean meet(int demand) {
            Table variables = demands.variables;
            switch (demands.sortOf(demand)) {
                case SORT_NUMBER:
                    return groups.give(variables.at(demand, 0), INT);
                case SORT_SAME:
                    return groups.join(variables.at(demand, 0), variables.at(demand, 1));
                case SORT_CALL:
                    return giveAll(demand, 0, predicates, demands.subjectOf(demand));
                case SORT_FORM:
                    return meaningOf(demand) != NONE || meetForm(demand);
                default:
                    return true;
            }
        }

        /** Gives a DEMAND's variables, the first ones left out, the TYPES of a list. */
        private boolean giveAll(int demand, int leftOut, Table table, int list) {
            for (int k = 0; k < table.length(list); k++) {
                if (!groups.give(demands.variables.at(demand, leftOut + k), table.at(list, k))) {
                    return false;
                }
            }
            return true;
        }

        private boolean meetForm(int demand) {
            int fitting = NONE;
            for (int c = 0; c < kinds.fields.size; c++) {
                if (fits(c, demand)) {
                    if (fitting != NONE) {
                        return true;
                    }
                    fitting = c;
                }
            }
            if (fitting == NONE || !isDemand(demand)) {
                return false;
            }
            meanings[demand] = fitting;
            settled++;
            // One variable may stand for two FIELDS, so what FITS may still CLASH here.
            return groups.give(demands.variables.at(demand, 0), kinds.kindOf(fitting))
                && giveAll(demand, 1, kinds.fields, fitting);
        }

        private boolean fits(int c, int demand) {
            Table variables = demands.variables;
            int fieldCount = kinds.fields.length(c);
            if (kinds.nameOf(c) != demands.subjectOf(demand)
                || fieldCount + 1 != variables.length(demand)
                || !groups.allows(variables.at(demand, 0), kinds.kindOf(c))) {
                return false;
            }
            for (int k = 0; k < fieldCount; k++) {
                if (!groups.allows(variables.at(demand, k + 1), kinds.fields.at(c, k))) {
                    return false;
                }
            }
            return true;
        }

        private int meaningOf(int demand) {
            return isDemand(demand) ? meanings[demand] : NONE;
        }

        private int firstWaiting() {
            for (int demand = 0; demand < demands.count(); demand++) {
                if (demands.sortOf(demand) == SORT_FORM && meaningOf(demand) == NONE) {
                    return demand;
                }
            }
            return NONE;
        }

        private int leastWithoutKind() {
            int least = VARIABLES;
            for (int demand = 0; demand < demands.count(); demand++) {
                for (int k = 0; k < demands.variables.length(demand); k++) {
                    int x = demands.variables.at(demand, k);
                    if (groups.kindOf(x) == NONE) {
                        least = Math.min(least, x);
                    }
                }
            }
            return least < VARIABLES ? least : NONE;
        }
    }

    /** What the latest SOLVING that was 0 found, kept apart so that a later FAULT leaves it whole. */
    private static final class Findings {
        private final int[] variableKinds = new int[VARIABLES];
        private final int[] meanings = new int[MOST_DEMANDS];
        private boolean known = false;

        private void forget() {
            known = false;
        }

        // A variable that no DEMAND has got no TYPE, and a DEMAND that is no FORM no meaning: the
        // SOLVING's own NONE is the answer for those.
        private void keep(Solver solver) {
            for (int x = 0; x < VARIABLES; x++) {
                variableKinds[x] = solver.groups.kindOf(x);
            }
            for (int demand = 0; demand < MOST_DEMANDS; demand++) {
                meanings[demand] = solver.meaningOf(demand);
            }
            known = true;
        }

        private int kindOf(int x) {
            return known && isVariable(x) ? variableKinds[x] : NONE;
        }

        private int meaningOf(int demand) {
            return known && isDemand(demand) ? meanings[demand] : NONE;
        }
    }
}
