import java.util.Random;

/** All promises: runs of calls, always the same ones, on a desk and on the model of the document. */
public final class RandomRunsTest {
    private static final int RUNS = 3000;
    private static final int[] EDGES = {
        Integer.MIN_VALUE, Integer.MIN_VALUE + 1, -2, -1, 0, 1, 3, 4, 5, 6, 7, 23, 24, 59, 60, 79, 80, 99, 100,
        199, 200, Integer.MAX_VALUE - 1, Integer.MAX_VALUE};
    private static final Check check = new Check("RandomRunsTest");

    private final Random random;
    private final KindDesk desk = new KindDesk();
    private final Model model = new Model();
    private final int types;
    private final int names;
    private final int variables;
    private final int wildness;
    private static final int[] faults = new int[4];
    private static int mostRounds = 0;

    private RandomRunsTest(int run) {
        random = new Random(run);
        types = 2 + random.nextInt(run % 7 == 0 ? 23 : 5);
        names = 1 + random.nextInt(4);
        variables = 2 + random.nextInt(run % 5 == 0 ? 79 : 12);
        wildness = run % 3 == 0 ? 12 : 150;
    }

    public static void main(String[] args) {
        for (int run = 0; run < RUNS; run++) {
            new RandomRunsTest(run).go();
        }
        for (int fault = 0; fault < 4; fault++) {
            check.due("solve() was often " + fault, faults[fault] > 1000, true);
        }
        check.due("there were long SOLVINGS", mostRounds > 6, true);
        System.out.println("RandomRunsTest: at most " + mostRounds + " ROUNDS");
        check.end();
    }

    private void go() {
        for (int i = 0; i < types - 1; i++) {
            both("type", desk.type(), model.type());
        }
        int before = 20 + random.nextInt(30);
        for (int i = 0; i < before; i++) {
            grow();
        }
        for (int call = 0; call < 100; call++) {
            step();
        }
        desk.clause();
        model.clause();
        planted();
    }

    /**
     * DEMANDS that agree with TYPES thought of before: without a CLASH the SOLVING goes on for many
     * ROUNDS. What tells the TYPES comes last, so that the FORMS wait.
     */
    private void planted() {
        int[] plan = new int[variables];
        for (int x = 0; x < variables; x++) {
            plan[x] = random.nextInt(types);
        }
        int constructors = 0;
        for (int type = 0; type < types; type++) {
            constructors += model.many(type);
        }
        int forms = constructors == 0 ? 0 : random.nextInt(40);
        for (int i = 0; i < forms; i++) {
            plantForm(random.nextInt(constructors), plan);
        }
        solve();
        for (int i = 0; i < 4; i++) {
            int x = random.nextInt(variables);
            int y = random.nextInt(variables);
            if (plan[x] == plan[y]) {
                both("same", desk.same(x, y), model.same(x, y));
            }
            desk.put(plan[x]);
            model.put(plan[x]);
            int predicate = model.predicate();
            both("predicate", desk.predicate(), predicate);
            desk.put(x);
            model.put(x);
            both("call", desk.call(predicate), model.call(predicate));
            solve();
        }
    }

    private void plantForm(int constructor, int[] plan) {
        int x = planned(model.about(constructor, 0), plan);
        int fields = model.about(constructor, 2);
        for (int k = 0; k < fields; k++) {
            int y = planned(model.about(constructor, 3 + k), plan);
            both("put", desk.put(y) ? 1 : 0, model.put(y));
        }
        int name = model.about(constructor, 1);
        both("form", desk.form(x, name), model.form(x, name));
    }

    /** A variable that has the TYPE by the plan, or none. */
    private int planned(int type, int[] plan) {
        int from = random.nextInt(plan.length);
        for (int i = 0; i < plan.length; i++) {
            int x = (from + i) % plan.length;
            if (plan[x] == type) {
                return x;
            }
        }
        return -1;
    }

    private void both(String call, int got, int want) {
        check.due(call, got, want);
    }

    private int pick(int end) {
        return random.nextInt(wildness) == 0 ? EDGES[random.nextInt(EDGES.length)] : random.nextInt(end);
    }

    private void putSome(int count, int end) {
        for (int i = 0; i < count; i++) {
            int n = pick(end);
            both("put", desk.put(n) ? 1 : 0, model.put(n));
        }
    }

    private int fewFields() {
        return random.nextInt(wildness) == 0 ? random.nextInt(8) : random.nextInt(3);
    }

    private void grow() {
        if (random.nextInt(4) == 0) {
            putSome(fewFields(), types);
            both("predicate", desk.predicate(), model.predicate());
        } else {
            putSome(fewFields(), types);
            int type = pick(types);
            int name = pick(names);
            both("constructor", desk.constructor(type, name), model.constructor(type, name));
        }
    }

    private void step() {
        switch (random.nextInt(24)) {
            case 0 -> both("type", desk.type(), model.type());
            case 1 -> grow();
            case 2 -> {
                if (random.nextInt(3) == 0) {
                    desk.clause();
                    model.clause();
                }
            }
            case 3 -> {
                int x = pick(variables);
                both("number", desk.number(x), model.number(x));
            }
            case 4, 5, 6 -> {
                int x = pick(variables);
                int y = pick(variables);
                both("same", desk.same(x, y), model.same(x, y));
            }
            case 7, 8 -> {
                putSome(random.nextInt(3), variables);
                int predicate = pick(10);
                both("call", desk.call(predicate), model.call(predicate));
            }
            case 9, 10, 11, 12, 13 -> {
                putSome(fewFields(), variables);
                int x = pick(variables);
                int name = pick(names);
                both("form", desk.form(x, name), model.form(x, name));
            }
            case 14, 15, 16, 17 -> solve();
            default -> ask();
        }
    }

    private void solve() {
        int fault = desk.solve();
        both("solve", fault, model.solve());
        if (fault >= 0 && fault < 4) {
            faults[fault]++;
        }
        mostRounds = Math.max(mostRounds, desk.told(1));
        for (int what = -1; what < 3; what++) {
            both("told", desk.told(what), model.told(what));
        }
        for (int x = -1; x <= 80; x++) {
            both("typeOf", desk.typeOf(x), model.typeOf(x));
        }
        for (int demand = -1; demand < 40; demand++) {
            both("meant", desk.meant(demand), model.meant(demand));
        }
    }

    private void ask() {
        int a = pick(30);
        int b = pick(8);
        int c = pick(5);
        int name = pick(names);
        both("told", desk.told(b), model.told(b));
        both("typeOf", desk.typeOf(a), model.typeOf(a));
        both("meant", desk.meant(a), model.meant(a));
        both("about", desk.about(a, b), model.about(a, b));
        both("many", desk.many(a), model.many(a));
        both("constructorOf", desk.constructorOf(b, c), model.constructorOf(b, c));
        both("find", desk.find(b, name, c), model.find(b, name, c));
    }
}
