/** Promises 11 to 14: SOLVING, and what is told of it. */
public final class SolvingTest {
    private static final int NONE = KindDesk.NONE;
    private static final int[] WILD = {Integer.MIN_VALUE, -1, 200, Integer.MAX_VALUE};
    private static final Check check = new Check("SolvingTest");

    public static void main(String[] args) {
        promise11Clashes();
        promise11ClashesOfSame();
        promise11FormClashesThoughItFits();
        promise11FormFitsByItsVariables();
        promise11FormFitsByX();
        promise11Rounds();
        promise11ChainBackwards();
        promise11OrderOfFaults();
        promise11LeastVariable();
        promise11StartsAnew();
        promise11NewConstructorsCount();
        promise12Told();
        promise13TypeOf();
        promise14Meant();
        answersOfTheLatestThatWasWell();
        check.end();
    }

    private static void solved(String what, KindDesk desk, int fault, int culprit, int rounds) {
        check.due(what + ": solve()", desk.solve(), fault);
        check.due(what + ": told(0)", desk.told(0), culprit);
        check.due(what + ": told(1)", desk.told(1), rounds);
    }

    /** Name 5 without FIELDS for TYPES 1 and 2; name 6 as (INT, 1) for 1 and (2, 2) for 2. */
    private static KindDesk shared() {
        KindDesk desk = Check.desk(2);
        desk.constructor(1, 5);
        Check.row(desk, 0, 1);
        desk.constructor(1, 6);
        desk.constructor(2, 5);
        Check.row(desk, 2, 2);
        desk.constructor(2, 6);
        return desk;
    }

    private static void promise11Clashes() {
        KindDesk desk = Check.desk(2);
        Check.row(desk, 1, 2);
        desk.predicate();
        Check.row(desk, 3, 3);
        desk.call(0);
        solved("11 a CALL within itself", desk, 1, 0, 1);
        desk.clause();
        Check.row(desk, 3, 4);
        desk.call(0);
        desk.number(4);
        solved("11 NUMBER behind a CALL", desk, 1, 1, 1);
        desk.clause();
        desk.number(4);
        Check.row(desk, 3, 4);
        desk.call(0);
        solved("11 CALL behind a NUMBER", desk, 1, 1, 1);
        desk.clause();
        desk.form(4, 77);
        desk.number(4);
        solved("11 a NAME of no CONSTRUCTOR", desk, 1, 0, 1);
        desk.constructor(1, 77);
        desk.clause();
        desk.number(4);
        desk.form(4, 77);
        solved("11 an INT is no FORM", desk, 1, 1, 1);
        desk.clause();
        Check.row(desk, 5);
        desk.form(4, 77);
        solved("11 another count of FIELDS", desk, 1, 0, 1);
    }

    private static void promise11ClashesOfSame() {
        KindDesk desk = Check.desk(1);
        desk.constructor(1, 0);
        desk.number(1);
        desk.form(2, 0);
        desk.same(1, 2);
        solved("11 SAME of two TYPES", desk, 1, 2, 1);
        desk.clause();
        desk.same(1, 2);
        desk.same(2, 3);
        desk.same(4, 3);
        desk.number(4);
        desk.form(1, 0);
        solved("11 through joined GROUPS", desk, 1, 4, 1);
        desk.clause();
        desk.number(1);
        desk.same(1, 2);
        desk.same(3, 1);
        solved("11 the TYPE goes along both ways", desk, 0, NONE, 2);
        check.due("11 typeOf(2)", desk.typeOf(2), 0);
        check.due("11 typeOf(3)", desk.typeOf(3), 0);
        desk.clause();
        desk.same(1, 2);
        desk.same(3, 4);
        desk.same(2, 3);
        desk.form(1, 0);
        desk.number(4);
        solved("11 four in one GROUP", desk, 1, 4, 1);
        desk.clause();
        desk.number(1);
        desk.number(2);
        desk.same(1, 2);
        solved("11 two GROUPS of one TYPE", desk, 0, NONE, 2);
    }

    private static void promise11FormClashesThoughItFits() {
        KindDesk desk = Check.desk(1);
        Check.row(desk, 0, 1);
        desk.constructor(1, 3);
        Check.row(desk, 7, 7);
        desk.form(8, 3);
        solved("11 one variable for two FIELDS", desk, 1, 0, 1);
        desk.clause();
        Check.row(desk, 7, 6);
        desk.form(7, 3);
        solved("11 x for an INT FIELD", desk, 1, 0, 1);
        desk.clause();
        Check.row(desk, 6, 7);
        desk.form(7, 3);
        solved("11 x for a FIELD of its TYPE", desk, 0, NONE, 2);
        desk.clause();
        desk.same(6, 8);
        Check.row(desk, 6, 8);
        desk.form(7, 3);
        solved("11 one GROUP for two FIELDS", desk, 1, 1, 1);
    }

    private static void promise11FormFitsByItsVariables() {
        KindDesk desk = shared();
        Check.row(desk, 1, 2);
        desk.form(0, 6);
        solved("11 two FIT", desk, 2, 0, 1);
        desk.number(1);
        solved("11 the first FIELD tells", desk, 0, NONE, 3);
        check.due("11 meant by the first", desk.meant(0), 1);
        desk.clause();
        Check.row(desk, 2);
        desk.predicate();
        Check.row(desk, 2);
        desk.call(0);
        Check.row(desk, 1, 2);
        desk.form(0, 6);
        solved("11 the last FIELD tells", desk, 0, NONE, 2);
        check.due("11 meant by the last", desk.meant(1), 3);
        check.due("11 x's TYPE", desk.typeOf(0), 2);
        check.due("11 the first FIELD's TYPE", desk.typeOf(1), 2);
        desk.clause();
        desk.number(2);
        Check.row(desk, 1, 2);
        desk.form(0, 6);
        solved("11 none FITS", desk, 1, 1, 1);
        desk.clause();
        Check.row(desk, 1, 1);
        desk.form(0, 6);
        solved("11 each variable is looked at alone, so two FIT", desk, 2, 0, 1);
    }

    private static void promise11FormFitsByX() {
        KindDesk desk = shared();
        desk.form(0, 5);
        Check.row(desk, 1, 0);
        desk.form(0, 6);
        solved("11 both wait", desk, 2, 0, 1);
        Check.row(desk, 1);
        desk.predicate();
        Check.row(desk, 0);
        desk.call(0);
        solved("11 x tells", desk, 0, NONE, 3);
        check.due("11 meant(0)", desk.meant(0), 0);
        check.due("11 meant(1)", desk.meant(1), 1);
        check.due("11 typeOf(1)", desk.typeOf(1), 0);
    }

    private static void promise11Rounds() {
        KindDesk desk = shared();
        solved("11 nothing to do", desk, 0, NONE, 1);
        desk.same(4, 4);
        solved("11 a variable with itself changes nothing", desk, 3, 4, 1);
        desk.clause();
        desk.same(4, 5);
        solved("11 GROUPS became one", desk, 3, 4, 2);
        desk.same(5, 4);
        solved("11 they are one already", desk, 3, 4, 2);
        desk.clause();
        desk.number(4);
        desk.number(4);
        solved("11 a GROUP got a TYPE", desk, 0, NONE, 2);
        desk.clause();
        Check.row(desk, 0, 1, 2);
        desk.predicate();
        Check.row(desk, 7, 1, 8);
        desk.call(0);
        desk.form(1, 5);
        solved("11 a FORM is SETTLED in the first ROUND", desk, 0, NONE, 2);
        desk.clause();
        desk.form(1, 5);
        Check.row(desk, 7, 1, 8);
        desk.call(0);
        solved("11 a FORM is SETTLED in the second, no TYPE got", desk, 0, NONE, 3);
        desk.clause();
        desk.form(1, 5);
        Check.row(desk, 1, 2);
        desk.form(3, 6);
        desk.number(1);
        solved("11 a CLASH in the second ROUND", desk, 1, 0, 2);
    }

    /** Each FORM waits for the one behind it: a ROUND for each. */
    private static void promise11ChainBackwards() {
        KindDesk desk = Check.desk(2);
        for (int t = 1; t <= 2; t++) {
            Check.row(desk, t);
            desk.constructor(t, 0);
        }
        for (int x = 0; x < 79; x++) {
            Check.row(desk, x + 1);
            desk.form(x, 0);
        }
        solved("11 all wait", desk, 2, 0, 1);
        Check.row(desk, 2);
        desk.predicate();
        Check.row(desk, 79);
        desk.call(0);
        solved("11 from the last to the first", desk, 0, NONE, 81);
        for (int x = 0; x < 79; x++) {
            check.due("11 typeOf in the chain", desk.typeOf(x), 2);
            check.due("11 meant in the chain", desk.meant(x), 1);
        }
        desk.number(0);
        solved("11 the CLASH at the end of the chain", desk, 1, 0, 2);
        desk.clause();
        for (int x = 0; x < 79; x++) {
            desk.same(x, x + 1);
        }
        desk.number(40);
        solved("11 one GROUP of eighty", desk, 0, NONE, 2);
        check.due("11 its first", desk.typeOf(0), 0);
        check.due("11 its last", desk.typeOf(79), 0);
    }

    private static void promise11OrderOfFaults() {
        KindDesk desk = shared();
        desk.same(9, 8);
        desk.form(3, 5);
        desk.form(2, 5);
        solved("11 a FORM waits before a variable lacks its TYPE", desk, 2, 1, 2);
        desk.form(1, 50);
        solved("11 a CLASH before both", desk, 1, 3, 1);
        desk.clause();
        desk.number(0);
        desk.form(1, 50);
        desk.form(0, 5);
        solved("11 the first CLASH", desk, 1, 1, 1);
        desk.clause();
        desk.form(1, 5);
        Check.row(desk, 2, 3);
        desk.form(4, 6);
        desk.number(2);
        desk.same(1, 4);
        solved("11 the second FORM first", desk, 0, NONE, 4);
        check.due("11 meant(0)", desk.meant(0), 0);
        check.due("11 meant(1)", desk.meant(1), 1);
    }

    private static void promise11LeastVariable() {
        KindDesk desk = new KindDesk();
        desk.number(0);
        desk.same(40, 30);
        desk.same(20, 50);
        solved("11 the least, not the first DEMAND's", desk, 3, 20, 2);
        desk.same(0, 20);
        solved("11 then the next", desk, 3, 30, 2);
        desk.clause();
        desk.same(79, 79);
        solved("11 the last variable", desk, 3, 79, 1);
        desk.same(0, 0);
        solved("11 the first variable", desk, 3, 0, 1);
    }

    private static void promise11StartsAnew() {
        KindDesk desk = shared();
        desk.form(1, 5);
        desk.same(1, 2);
        solved("11 once", desk, 2, 0, 2);
        solved("11 the same again", desk, 2, 0, 2);
        Check.row(desk, 1);
        desk.predicate();
        Check.row(desk, 2);
        desk.call(0);
        solved("11 with the CALL", desk, 0, NONE, 3);
        solved("11 with the CALL again", desk, 0, NONE, 3);
    }

    private static void promise11NewConstructorsCount() {
        KindDesk desk = Check.desk(2);
        desk.constructor(1, 5);
        desk.form(1, 5);
        solved("11 one alone FITS", desk, 0, NONE, 2);
        desk.constructor(2, 5);
        solved("11 now two FIT", desk, 2, 0, 1);
        check.due("11 the SOLVING that was 0 tells", desk.typeOf(1), 1);
        check.due("11 and what was meant", desk.meant(0), 0);
    }

    private static void promise12Told() {
        KindDesk desk = Check.desk(1);
        check.due("12 without a solve(): 0", desk.told(0), NONE);
        check.due("12 without a solve(): 1", desk.told(1), NONE);
        desk.same(0, 1);
        check.due("12 still without", desk.told(1), NONE);
        solved("12 a variable 0", desk, 3, 0, 2);
        check.due("12 told(2)", desk.told(2), NONE);
        for (int what : WILD) {
            check.due("12 wild what", desk.told(what), NONE);
        }
        desk.number(1);
        check.due("12 the latest solve(), not the DEMANDS now", desk.told(0), 0);
        solved("12 all is well", desk, 0, NONE, 2);
        desk.form(1, 0);
        check.due("12 still the latest", desk.told(0), NONE);
        solved("12 a DEMAND", desk, 1, 2, 1);
        desk.clause();
        check.due("12 a new CLAUSE: 0", desk.told(0), NONE);
        check.due("12 a new CLAUSE: 1", desk.told(1), NONE);
    }

    private static void promise13TypeOf() {
        KindDesk desk = shared();
        Check.row(desk, 1, 2);
        desk.form(0, 6);
        desk.number(1);
        check.due("13 before a solve()", desk.typeOf(1), NONE);
        desk.solve();
        check.due("13 typeOf(0)", desk.typeOf(0), 1);
        check.due("13 typeOf(1)", desk.typeOf(1), 0);
        check.due("13 typeOf(2)", desk.typeOf(2), 1);
        check.due("13 no DEMAND has it", desk.typeOf(3), NONE);
        check.due("13 no variable 80", desk.typeOf(80), NONE);
        for (int x : WILD) {
            check.due("13 wild variable", desk.typeOf(x), NONE);
        }
        desk.number(3);
        check.due("13 not SOLVED yet", desk.typeOf(3), NONE);
        desk.solve();
        check.due("13 SOLVED", desk.typeOf(3), 0);
    }

    private static void promise14Meant() {
        KindDesk desk = shared();
        Check.row(desk, 1, 2);
        desk.form(0, 6);
        desk.number(1);
        desk.same(0, 0);
        desk.predicate();
        desk.call(0);
        check.due("14 before a solve()", desk.meant(0), NONE);
        desk.solve();
        check.due("14 a FORM", desk.meant(0), 1);
        check.due("14 a NUMBER", desk.meant(1), NONE);
        check.due("14 a SAME", desk.meant(2), NONE);
        check.due("14 a CALL", desk.meant(3), NONE);
        check.due("14 no DEMAND", desk.meant(4), NONE);
        for (int demand : WILD) {
            check.due("14 wild DEMAND", desk.meant(demand), NONE);
        }
        desk.form(0, 5);
        check.due("14 not SOLVED yet", desk.meant(4), NONE);
        desk.solve();
        check.due("14 SOLVED", desk.meant(4), 0);
    }

    private static void answersOfTheLatestThatWasWell() {
        KindDesk desk = shared();
        desk.number(1);
        desk.solve();
        Check.row(desk, 1, 3);
        desk.form(2, 6);
        desk.number(2);
        solved("13, 14 a CLASH", desk, 1, 2, 1);
        check.due("13 the SOLVED variable", desk.typeOf(1), 0);
        check.due("13 a variable of the FAULT", desk.typeOf(2), NONE);
        check.due("13 another of it", desk.typeOf(3), NONE);
        check.due("14 a FORM that was SETTLED before the CLASH", desk.meant(1), NONE);
        desk.clause();
        desk.solve();
        check.due("13 the empty CLAUSE was SOLVED", desk.typeOf(1), NONE);
        desk.same(1, 2);
        solved("13 a variable lacks its TYPE", desk, 3, 1, 2);
        desk.number(2);
        check.due("13 still the empty CLAUSE's", desk.typeOf(2), NONE);
        desk.solve();
        check.due("13 now", desk.typeOf(1), 0);
    }
}
