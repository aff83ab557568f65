import java.util.Random;

/**
 * All promises: runs of calls, always the same ones, on a desk and on the model of the document. A run
 * keeps to the 512 calls of an object that the document promises answers for.
 */
public final class RandomRunsTest {
    private static final int RUNS = 8000;
    private static final int MOST_CALLS = 512;
    // A SOLVING with the questions behind it is the dearest step, some 33 calls.
    private static final int DEAREST_STEP = 40;
    private static final int BEFORE_THE_CLAUSE = 150;
    private static final int BEFORE_THE_PLANTED_ARE_SOLVED = 300;
    private static final int[] EDGES = {
        Integer.MIN_VALUE, Integer.MIN_VALUE + 1, -2, -1, 0, 1, 3, 4, 5, 6, 7, 23, 24, 59, 60, 79, 80, 99, 100,
        199, 200, Integer.MAX_VALUE - 1, Integer.MAX_VALUE};
    private static final Check check = new Check("RandomRunsTest");

    private final Random random;
    private final KindDesk desk = new KindDesk();
    private final Model model = new Model();
    private final int types;
    private final int names;
    private final int variables;
    private final int wildness;
    private final boolean planted;
    private int calls = 0;
    private static final int[] faults = new int[4];
    private static int mostRounds = 0;

    private RandomRunsTest(int run) {
        random = new Random(run);
        types = 2 + random.nextInt(run % 7 == 0 ? 23 : 5);
        names = 1 + random.nextInt(4);
        variables = 2 + random.nextInt(run % 5 == 0 ? 79 : 12);
        wildness = run % 3 == 0 ? 12 : 150;
        planted = run % 2 == 0;
    }

    public static void main(String[] args) {
        for (int run = 0; run < RUNS; run++) {
            new RandomRunsTest(run).go();
        }
        for (int fault = 0; fault < 4; fault++) {
            check.due("solve() was often " + fault, faults[fault] > 1000, true);
        }
        check.due("there were long SOLVINGS", mostRounds > 6, true);
        System.out.println("RandomRunsTest: at most " + mostRounds + " ROUNDS");
        check.end();
    }

    private void go() {
        for (int i = 0; i < types - 1; i++) {
            both("type", desk.type(), model.type());
        }
        int before = 20 + random.nextInt(30);
        for (int i = 0; i < before && calls < BEFORE_THE_CLAUSE; i++) {
            grow();
        }
        if (planted) {
            plant();
        } else {
            while (calls <= MOST_CALLS - DEAREST_STEP) {
                step();
            }
        }
        check.due("a run's calls beyond 512", Math.max(0, calls - MOST_CALLS), 0);
    }

    /**
     * DEMANDS that agree with TYPES thought of before: without a CLASH the SOLVING goes on for many
     * ROUNDS. What tells the TYPES comes last, so that the FORMS wait.
     */
    private void plant() {
        int[] plan = new int[variables];
        for (int x = 0; x < variables; x++) {
            plan[x] = random.nextInt(types);
        }
        int constructors = 0;
        for (int type = 0; type < types; type++) {
            constructors += model.many(type);
        }
        int forms = constructors == 0 ? 0 : random.nextInt(40);
        for (int i = 0; i < forms && calls < BEFORE_THE_PLANTED_ARE_SOLVED; i++) {
            plantForm(random.nextInt(constructors), plan);
        }
        solve();
        for (int i = 0; i < 4; i++) {
            tellOne(plan);
            solve();
        }
    }

    private void tellOne(int[] plan) {
        int x = random.nextInt(variables);
        int y = random.nextInt(variables);
        if (plan[x] == plan[y]) {
            both("same", desk.same(x, y), model.same(x, y));
        }
        put(plan[x]);
        int predicate = model.predicate();
        both("predicate", desk.predicate(), predicate);
        put(x);
        both("call", desk.call(predicate), model.call(predicate));
    }

    private void plantForm(int constructor, int[] plan) {
        int x = planned(model.about(constructor, 0), plan);
        int fields = model.about(constructor, 2);
        for (int k = 0; k < fields; k++) {
            put(planned(model.about(constructor, 3 + k), plan));
        }
        int name = model.about(constructor, 1);
        both("form", desk.form(x, name), model.form(x, name));
    }

    /** A variable that has the TYPE by the plan, or none. */
    private int planned(int type, int[] plan) {
        int from = random.nextInt(plan.length);
        for (int i = 0; i < plan.length; i++) {
            int x = (from + i) % plan.length;
            if (plan[x] == type) {
                return x;
            }
        }
        return -1;
    }

    private void both(String call, int got, int want) {
        calls++;
        check.due(call, got, want);
    }

    private void put(int n) {
        both("put", desk.put(n) ? 1 : 0, model.put(n));
    }

    private int pick(int end) {
        return random.nextInt(wildness) == 0 ? EDGES[random.nextInt(EDGES.length)] : random.nextInt(end);
    }

    private void putSome(int count, int end) {
        for (int i = 0; i < count; i++) {
            put(pick(end));
        }
    }

    private int fewFields() {
        return random.nextInt(wildness) == 0 ? random.nextInt(8) : random.nextInt(3);
    }

    private void grow() {
        if (random.nextInt(4) == 0) {
            putSome(fewFields(), types);
            both("predicate", desk.predicate(), model.predicate());
        } else {
            putSome(fewFields(), types);
            int type = pick(types);
            int name = pick(names);
            both("constructor", desk.constructor(type, name), model.constructor(type, name));
        }
    }

    private void step() {
        switch (random.nextInt(24)) {
            case 0 -> both("type", desk.type(), model.type());
            case 1 -> grow();
            case 2 -> {
                if (random.nextInt(3) == 0) {
                    desk.clause();
                    both("clause", 0, model.clause());
                }
            }
            case 3 -> {
                int x = pick(variables);
                both("number", desk.number(x), model.number(x));
            }
            case 4, 5, 6 -> {
                int x = pick(variables);
                int y = pick(variables);
                both("same", desk.same(x, y), model.same(x, y));
            }
            case 7, 8 -> {
                putSome(random.nextInt(3), variables);
                int predicate = pick(10);
                both("call", desk.call(predicate), model.call(predicate));
            }
            case 9, 10, 11, 12, 13 -> {
                putSome(fewFields(), variables);
                int x = pick(variables);
                int name = pick(names);
                both("form", desk.form(x, name), model.form(x, name));
            }
            case 14, 15, 16, 17 -> solve();
            default -> ask();
        }
    }

    private void solve() {
        int fault = desk.solve();
        both("solve", fault, model.solve());
        if (fault >= 0 && fault < 4) {
            faults[fault]++;
        }
        for (int what = -1; what < 3; what++) {
            both("told", desk.told(what), model.told(what));
        }
        mostRounds = Math.max(mostRounds, model.told(1));
        for (int i = 0; i < 16; i++) {
            int x = pick(variables);
            both("typeOf", desk.typeOf(x), model.typeOf(x));
        }
        for (int i = 0; i < 10; i++) {
            int demand = pick(40);
            both("meant", desk.meant(demand), model.meant(demand));
        }
    }

    private void ask() {
        int a = pick(30);
        int b = pick(8);
        int c = pick(5);
        int name = pick(names);
        both("told", desk.told(b), model.told(b));
        both("typeOf", desk.typeOf(a), model.typeOf(a));
        both("meant", desk.meant(a), model.meant(a));
        both("about", desk.about(a, b), model.about(a, b));
        both("many", desk.many(a), model.many(a));
        both("constructorOf", desk.constructorOf(b, c), model.constructorOf(b, c));
        both("find", desk.find(b, name, c), model.find(b, name, c));
    }
}
