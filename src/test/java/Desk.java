/**
 * A KindDesk with which a test asks one sentence of the document: each call says the answer that is
 * due. The document promises nothing behind an object's 512th call, so a test that goes on is wrong.
 */
final class Desk {
    // The document's own number, not the class's: a wrong constant must not make wrong answers right.
    static final int NONE = -1;
    static final int MOST_CALLS = 512;

    private final Check check;
    private final String sentence;
    private final KindDesk desk = new KindDesk();
    private int calls = 0;

    Desk(Check check, String sentence) {
        this.check = check;
        this.sentence = sentence;
    }

    /** Numbers that lie outside 0 .. end - 1, among them such as fall into it when cut to fewer bits. */
    static int[] outside(int end) {
        return new int[] {
            end, end + 1, -1, -2, -end, 256, 257, 65536, 65537, -255, -65535,
            Integer.MAX_VALUE, Integer.MAX_VALUE - 1,
            Integer.MIN_VALUE, Integer.MIN_VALUE + 1, Integer.MIN_VALUE + 2, Integer.MIN_VALUE + 3};
    }

    private Desk due(String call, int got, int want) {
        calls++;
        check.due(sentence + ": call " + calls + ", " + call + ",", got, want);
        if (calls > MOST_CALLS) {
            check.due(sentence + ": the test goes beyond 512,", calls, MOST_CALLS);
        }
        return this;
    }

    int calls() {
        return calls;
    }

    Desk type(int due) {
        return due("type()", desk.type(), due);
    }

    /** The first so many TYPES beside INT. */
    Desk types(int count) {
        for (int t = 1; t <= count; t++) {
            type(t);
        }
        return this;
    }

    Desk put(int n, boolean due) {
        return due("put(" + n + ")", desk.put(n) ? 1 : 0, due ? 1 : 0);
    }

    Desk row(int... numbers) {
        for (int n : numbers) {
            put(n, true);
        }
        return this;
    }

    /** The row's length is seen by how many more it takes; a refused predicate() then empties it. */
    Desk rowHas(int count) {
        for (int i = count; i < 6; i++) {
            put(-1, true);
        }
        return put(-1, false).predicate(NONE);
    }

    Desk constructor(int type, int name, int due) {
        return due("constructor(" + type + ", " + name + ")", desk.constructor(type, name), due);
    }

    Desk predicate(int due) {
        return due("predicate()", desk.predicate(), due);
    }

    Desk clause() {
        desk.clause();
        return due("clause()", 0, 0);
    }

    Desk number(int x, int due) {
        return due("number(" + x + ")", desk.number(x), due);
    }

    Desk same(int x, int y, int due) {
        return due("same(" + x + ", " + y + ")", desk.same(x, y), due);
    }

    Desk call(int predicate, int due) {
        return due("call(" + predicate + ")", desk.call(predicate), due);
    }

    Desk form(int x, int name, int due) {
        return due("form(" + x + ", " + name + ")", desk.form(x, name), due);
    }

    Desk solve(int due) {
        return due("solve()", desk.solve(), due);
    }

    /** A solve() with what told() says of it. */
    Desk solve(int fault, int who, int rounds) {
        return solve(fault).told(0, who).told(1, rounds);
    }

    Desk told(int what, int due) {
        return due("told(" + what + ")", desk.told(what), due);
    }

    Desk typeOf(int x, int due) {
        return due("typeOf(" + x + ")", desk.typeOf(x), due);
    }

    Desk meant(int demand, int due) {
        return due("meant(" + demand + ")", desk.meant(demand), due);
    }

    Desk about(int constructor, int what, int due) {
        return due("about(" + constructor + ", " + what + ")", desk.about(constructor, what), due);
    }

    /** All that is to be said of a CONSTRUCTOR, and that there is nothing behind it. */
    Desk aboutAll(int constructor, int type, int name, int... fields) {
        about(constructor, 0, type).about(constructor, 1, name).about(constructor, 2, fields.length);
        for (int k = 0; k < fields.length; k++) {
            about(constructor, 3 + k, fields[k]);
        }
        return about(constructor, 3 + fields.length, NONE);
    }

    Desk many(int type, int due) {
        return due("many(" + type + ")", desk.many(type), due);
    }

    Desk constructorOf(int type, int k, int due) {
        return due("constructorOf(" + type + ", " + k + ")", desk.constructorOf(type, k), due);
    }

    Desk find(int type, int name, int fields, int due) {
        return due("find(" + type + ", " + name + ", " + fields + ")", desk.find(type, name, fields), due);
    }
}
