/** Promises 1 to 5 and 15 to 18: the TYPES, the row, CONSTRUCTORS and PREDICATES. */
public final class CatalogTest {
    private static final int NONE = KindDesk.NONE;
    private static final int[] WILD = {Integer.MIN_VALUE, Integer.MIN_VALUE + 2, -4, -1, 1000, Integer.MAX_VALUE};
    private static final Check check = new Check("CatalogTest");

    public static void main(String[] args) {
        promise1NewObject();
        promise2Type();
        promise3Put();
        promise3CallsThatTakeTheRowEmptyIt();
        promise4Constructor();
        promise4Refusals();
        promise4OneOfAKind();
        promise4AtMostAHundred();
        promise5Predicate();
        promise5AtMostSixty();
        promise15About();
        promise16Many();
        promise17ConstructorOf();
        promise18Find();
        check.end();
    }

    private static void promise1NewObject() {
        KindDesk desk = new KindDesk();
        check.due("1 many(INT)", desk.many(0), 0);
        check.due("1 many(1)", desk.many(1), NONE);
        check.due("1 about(0, 0)", desk.about(0, 0), NONE);
        check.due("1 told(0)", desk.told(0), NONE);
        check.due("1 told(1)", desk.told(1), NONE);
        check.due("1 typeOf(0)", desk.typeOf(0), NONE);
        check.due("1 meant(0)", desk.meant(0), NONE);
        check.due("1 call(0) without a PREDICATE", desk.call(0), NONE);
        check.due("1 the row is empty: form", desk.form(0, 0), 0);
        check.due("1 solve() finds no CONSTRUCTOR", desk.solve(), 1);
        check.due("1 the row is empty: predicate", desk.predicate(), 0);
        check.due("1 call(0) without variables", desk.call(0), 1);
        KindDesk other = new KindDesk();
        check.due("1 objects share nothing", other.number(3), 0);
        check.due("1 objects share no CLAUSE", desk.number(3), 2);
        check.due("1 NONE", NONE, -1);
    }

    private static void promise2Type() {
        KindDesk desk = new KindDesk();
        for (int t = 1; t < 24; t++) {
            check.due("2 many before type", desk.many(t), NONE);
            check.due("2 type", desk.type(), t);
            check.due("2 many after type", desk.many(t), 0);
        }
        check.due("2 type() beyond 24", desk.type(), NONE);
        check.due("2 type() beyond 24 again", desk.type(), NONE);
        check.due("2 many(23)", desk.many(23), 0);
        check.due("2 many(24)", desk.many(24), NONE);
        check.due("2 the last TYPE takes CONSTRUCTORS", desk.constructor(23, 0), 0);
        check.due("2 there is no TYPE 24", desk.constructor(24, 0), NONE);
    }

    private static void promise3Put() {
        KindDesk desk = Check.desk(1);
        for (int i = 0; i < 6; i++) {
            check.due("3 put", desk.put(i % 2), true);
        }
        check.due("3 put the seventh", desk.put(0), false);
        check.due("3 put the eighth", desk.put(50), false);
        check.due("3 the six stand", desk.predicate(), 0);
        Check.row(desk, 1, 2, 1, 2, 1, 2);
        check.due("3 call with six", desk.call(0), 0);
        check.due("3 solve", desk.solve(), 0);
        check.due("3 typeOf(1)", desk.typeOf(1), 0);
        check.due("3 typeOf(2)", desk.typeOf(2), 1);
        for (int n : WILD) {
            check.due("3 put takes any number", desk.put(n), true);
        }
        check.due("3 but there are six", desk.put(0), false);
        desk.type();
        desk.number(0);
        desk.same(0, 1);
        desk.solve();
        check.due("3 type, number, same, solve take no row", desk.put(0), false);
        desk.told(0);
        desk.typeOf(0);
        desk.meant(0);
        desk.about(0, 0);
        desk.many(0);
        desk.constructorOf(0, 0);
        desk.find(0, 0, 0);
        check.due("3 nor do the questions", desk.put(0), false);
    }

    private static void promise3CallsThatTakeTheRowEmptyIt() {
        KindDesk desk = Check.desk(1);
        Check.row(desk, 0);
        check.due("3 constructor takes it", desk.constructor(1, 0), 0);
        check.due("3 it was taken", desk.constructor(1, 1), 1);
        check.due("3 so it has no FIELD", desk.about(1, 2), 0);
        Check.row(desk, 9);
        check.due("3 constructor refused", desk.constructor(1, 2), NONE);
        check.due("3 emptied all the same", desk.constructor(1, 2), 2);
        Check.row(desk, 9);
        check.due("3 predicate refused", desk.predicate(), NONE);
        check.due("3 emptied by predicate", desk.predicate(), 0);
        Check.row(desk, 9);
        check.due("3 call refused", desk.call(0), NONE);
        check.due("3 emptied by call", desk.call(0), 0);
        Check.row(desk, 80);
        check.due("3 form refused", desk.form(1, 1), NONE);
        check.due("3 emptied by form", desk.form(1, 1), 1);
        Check.row(desk, 7);
        check.due("3 form takes it", desk.form(1, 0), 2);
        check.due("3 taken by form", desk.call(0), 3);
        Check.row(desk, 0);
        check.due("3 predicate takes it", desk.predicate(), 1);
        check.due("3 taken by predicate", desk.call(0), 4);
        Check.row(desk, 7);
        check.due("3 call takes it", desk.call(1), 5);
        check.due("3 taken by call", desk.call(0), 6);
    }

    private static void promise4Constructor() {
        KindDesk desk = Check.desk(2);
        Check.row(desk, 0, 1, 2, 1);
        check.due("4 four FIELDS", desk.constructor(1, 199), 0);
        check.due("4 no FIELD", desk.constructor(2, 0), 1);
        Check.row(desk, 2);
        check.due("4 a FIELD of its own TYPE", desk.constructor(2, 0), 2);
        check.due("4 first FIELD", desk.about(0, 3), 0);
        check.due("4 last FIELD", desk.about(0, 6), 1);
    }

    private static void promise4Refusals() {
        KindDesk desk = Check.desk(2);
        check.due("4 INT", desk.constructor(0, 1), NONE);
        check.due("4 no such TYPE", desk.constructor(3, 1), NONE);
        check.due("4 name 200", desk.constructor(1, 200), NONE);
        for (int n : WILD) {
            check.due("4 wild TYPE", desk.constructor(n, 1), NONE);
            check.due("4 wild name", desk.constructor(1, n), NONE);
            Check.row(desk, 0, n);
            check.due("4 wild FIELD", desk.constructor(1, 1), NONE);
        }
        Check.row(desk, 0, 0, 0, 0, 0);
        check.due("4 five FIELDS", desk.constructor(1, 1), NONE);
        Check.row(desk, 3);
        check.due("4 FIELD 3 is no TYPE yet", desk.constructor(1, 1), NONE);
        check.due("4 nothing came of those", desk.about(0, 0), NONE);
        check.due("4 many(1)", desk.many(1), 0);
        desk.type();
        Check.row(desk, 3);
        check.due("4 now it is one", desk.constructor(1, 1), 0);
    }

    private static void promise4OneOfAKind() {
        KindDesk desk = Check.desk(2);
        Check.row(desk, 0, 1);
        check.due("4 first", desk.constructor(1, 5), 0);
        Check.row(desk, 1, 0);
        check.due("4 same TYPE, NAME and count", desk.constructor(1, 5), NONE);
        Check.row(desk, 0);
        check.due("4 another count", desk.constructor(1, 5), 1);
        Check.row(desk, 0, 1);
        check.due("4 another TYPE", desk.constructor(2, 5), 2);
        Check.row(desk, 0, 1);
        check.due("4 another NAME", desk.constructor(1, 6), 3);
    }

    private static void promise4AtMostAHundred() {
        KindDesk desk = Check.desk(1);
        for (int c = 0; c < 100; c++) {
            check.due("4 up to a hundred", desk.constructor(1, c), c);
        }
        check.due("4 one more", desk.constructor(1, 100), NONE);
        Check.row(desk, 0);
        check.due("4 one more with a FIELD", desk.constructor(1, 0), NONE);
        check.due("4 the last one has no FIELD", desk.about(99, 2), 0);
        check.due("4 the row was emptied", desk.form(0, 99), 0);
        check.due("4 many", desk.many(1), 100);
        check.due("4 the last", desk.constructorOf(1, 99), 99);
        for (int what = 0; what < 8; what++) {
            check.due("4 none behind", desk.about(100, what), NONE);
        }
        check.due("4 solve with the last", desk.solve(), 0);
        check.due("4 meant the last", desk.meant(0), 99);
    }

    private static void promise5Predicate() {
        KindDesk desk = Check.desk(1);
        check.due("5 no ARGUMENT", desk.predicate(), 0);
        Check.row(desk, 0, 1, 0, 1, 0, 1);
        check.due("5 six ARGUMENTS", desk.predicate(), 1);
        Check.row(desk, 2);
        check.due("5 no TYPE", desk.predicate(), NONE);
        for (int n : WILD) {
            Check.row(desk, 0, 1, n);
            check.due("5 wild ARGUMENT", desk.predicate(), NONE);
        }
        Check.row(desk, 1);
        check.due("5 the next number", desk.predicate(), 2);
        Check.row(desk, 1);
        check.due("5 the same again", desk.predicate(), 3);
    }

    private static void promise5AtMostSixty() {
        KindDesk desk = new KindDesk();
        for (int p = 0; p < 60; p++) {
            check.due("5 up to sixty", desk.predicate(), p);
        }
        Check.row(desk, 0);
        check.due("5 one more", desk.predicate(), NONE);
        check.due("5 the row was emptied, the last has no ARGUMENT", desk.call(59), 0);
        check.due("5 there is no 60", desk.call(60), NONE);
    }

    private static void promise15About() {
        KindDesk desk = Check.desk(2);
        Check.row(desk, 0, 2, 1);
        desk.constructor(2, 17);
        Check.row(desk, 1);
        desk.constructor(1, 3);
        check.due("15 TYPE", desk.about(0, 0), 2);
        check.due("15 NAME", desk.about(0, 1), 17);
        check.due("15 count", desk.about(0, 2), 3);
        check.due("15 FIELD 0", desk.about(0, 3), 0);
        check.due("15 FIELD 1", desk.about(0, 4), 2);
        check.due("15 FIELD 2", desk.about(0, 5), 1);
        check.due("15 no FIELD 3", desk.about(0, 6), NONE);
        check.due("15 TYPE of 1", desk.about(1, 0), 1);
        check.due("15 NAME of 1", desk.about(1, 1), 3);
        check.due("15 FIELD of 1", desk.about(1, 3), 1);
        check.due("15 no FIELD 1 of 1", desk.about(1, 4), NONE);
        for (int what = 0; what < 8; what++) {
            check.due("15 no such CONSTRUCTOR", desk.about(2, what), NONE);
            for (int n : WILD) {
                check.due("15 wild CONSTRUCTOR", desk.about(n, what), NONE);
            }
        }
        for (int n : WILD) {
            check.due("15 wild what", desk.about(0, n), NONE);
        }
    }

    private static KindDesk threeOfTwoKinds() {
        KindDesk desk = Check.desk(3);
        desk.constructor(2, 9);
        desk.constructor(1, 9);
        Check.row(desk, 0, 0);
        desk.constructor(2, 9);
        return desk;
    }

    private static void promise16Many() {
        KindDesk desk = threeOfTwoKinds();
        check.due("16 many(0)", desk.many(0), 0);
        check.due("16 many(1)", desk.many(1), 1);
        check.due("16 many(2)", desk.many(2), 2);
        check.due("16 many(3)", desk.many(3), 0);
        check.due("16 many(4)", desk.many(4), NONE);
        for (int n : WILD) {
            check.due("16 wild TYPE", desk.many(n), NONE);
        }
    }

    private static void promise17ConstructorOf() {
        KindDesk desk = threeOfTwoKinds();
        check.due("17 (2, 0)", desk.constructorOf(2, 0), 0);
        check.due("17 (2, 1)", desk.constructorOf(2, 1), 2);
        check.due("17 (2, 2)", desk.constructorOf(2, 2), NONE);
        check.due("17 (1, 0)", desk.constructorOf(1, 0), 1);
        check.due("17 (3, 0)", desk.constructorOf(3, 0), NONE);
        check.due("17 (0, 0)", desk.constructorOf(0, 0), NONE);
        check.due("17 (4, 0)", desk.constructorOf(4, 0), NONE);
        for (int n : WILD) {
            check.due("17 wild TYPE", desk.constructorOf(n, 0), NONE);
            check.due("17 wild k", desk.constructorOf(2, n), NONE);
        }
    }

    private static void promise18Find() {
        KindDesk desk = threeOfTwoKinds();
        check.due("18 (2, 9, 0)", desk.find(2, 9, 0), 0);
        check.due("18 (2, 9, 2)", desk.find(2, 9, 2), 2);
        check.due("18 (1, 9, 0)", desk.find(1, 9, 0), 1);
        check.due("18 another count", desk.find(2, 9, 1), NONE);
        check.due("18 another TYPE", desk.find(1, 9, 2), NONE);
        check.due("18 another NAME", desk.find(2, 8, 0), NONE);
        check.due("18 INT", desk.find(0, 9, 0), NONE);
        for (int n : WILD) {
            check.due("18 wild TYPE", desk.find(n, 9, 0), NONE);
            check.due("18 wild name", desk.find(2, n, 0), NONE);
            check.due("18 wild count", desk.find(2, 9, n), NONE);
        }
    }
}
