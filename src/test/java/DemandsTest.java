/** Promises 6 to 10: a new CLAUSE and its DEMANDS. */
public final class DemandsTest {
    private static final int NONE = KindDesk.NONE;
    private static final int[] NO_VARIABLE = {Integer.MIN_VALUE, -1, 80, Integer.MAX_VALUE};
    private static final Check check = new Check("DemandsTest");

    public static void main(String[] args) {
        promise6Clause();
        promise6WhatStaysBehindIt();
        promise7Number();
        promise8Same();
        promise9Call();
        promise10Form();
        atMostTwoHundredDemands();
        check.end();
    }

    private static void promise6Clause() {
        KindDesk desk = Check.desk(1);
        desk.constructor(1, 4);
        desk.form(6, 4);
        desk.number(5);
        check.due("6 solve", desk.solve(), 0);
        check.due("6 typeOf(5)", desk.typeOf(5), 0);
        check.due("6 meant(0)", desk.meant(0), 0);
        check.due("6 told(1)", desk.told(1), 2);
        desk.put(5);
        desk.clause();
        check.due("6 the new one has no TYPES", desk.typeOf(5), NONE);
        check.due("6 nor meanings", desk.meant(0), NONE);
        check.due("6 nor a solve(): told(1)", desk.told(1), NONE);
        check.due("6 the row is empty", desk.form(6, 4), 0);
        check.due("6 DEMANDS from 0 on", desk.number(7), 1);
        check.due("6 not SOLVED yet", desk.typeOf(7), NONE);
        check.due("6 nor meant yet", desk.meant(0), NONE);
        check.due("6 solve the new one", desk.solve(), 0);
        check.due("6 it has 7", desk.typeOf(7), 0);
        check.due("6 and not 5", desk.typeOf(5), NONE);
        desk.number(6);
        check.due("6 a FAULT", desk.solve(), 1);
        check.due("6 told(0)", desk.told(0), 2);
        desk.clause();
        check.due("6 the FAULT is gone", desk.told(0), NONE);
        check.due("6 its ROUNDS too", desk.told(1), NONE);
        check.due("6 without DEMANDS all is well", desk.solve(), 0);
        check.due("6 in one ROUND", desk.told(1), 1);
        check.due("6 typeOf(7)", desk.typeOf(7), NONE);
        check.due("6 meant(0)", desk.meant(0), NONE);
    }

    private static void promise6WhatStaysBehindIt() {
        KindDesk desk = Check.desk(1);
        desk.constructor(1, 4);
        Check.row(desk, 1);
        desk.predicate();
        desk.clause();
        check.due("6 TYPES stay", desk.type(), 2);
        check.due("6 CONSTRUCTORS stay", desk.many(1), 1);
        Check.row(desk, 3);
        check.due("6 PREDICATES stay", desk.call(0), 0);
        check.due("6 solve", desk.solve(), 0);
        check.due("6 typeOf(3)", desk.typeOf(3), 1);
    }

    private static void promise7Number() {
        KindDesk desk = new KindDesk();
        for (int x : NO_VARIABLE) {
            check.due("7 number of none", desk.number(x), NONE);
        }
        check.due("7 number(0)", desk.number(0), 0);
        check.due("7 number(79)", desk.number(79), 1);
        check.due("7 number(0) again", desk.number(0), 2);
        check.due("7 solve", desk.solve(), 0);
        check.due("7 typeOf(0)", desk.typeOf(0), 0);
        check.due("7 typeOf(79)", desk.typeOf(79), 0);
        check.due("7 typeOf(1)", desk.typeOf(1), NONE);
    }

    private static void promise8Same() {
        KindDesk desk = new KindDesk();
        for (int x : NO_VARIABLE) {
            check.due("8 same(none, 0)", desk.same(x, 0), NONE);
            check.due("8 same(0, none)", desk.same(0, x), NONE);
        }
        check.due("8 same(0, 79)", desk.same(0, 79), 0);
        check.due("8 same(5, 5)", desk.same(5, 5), 1);
        check.due("8 number(79)", desk.number(79), 2);
        check.due("8 solve", desk.solve(), 3);
        check.due("8 5 has no TYPE", desk.told(0), 5);
        desk.number(5);
        check.due("8 solve with it", desk.solve(), 0);
        check.due("8 typeOf(0)", desk.typeOf(0), 0);
    }

    private static void promise9Call() {
        KindDesk desk = Check.desk(2);
        Check.row(desk, 1, 0, 2);
        desk.predicate();
        check.due("9 too few", desk.call(0), NONE);
        Check.row(desk, 1, 2);
        check.due("9 one too few", desk.call(0), NONE);
        Check.row(desk, 1, 2, 3, 4);
        check.due("9 one too many", desk.call(0), NONE);
        for (int x : NO_VARIABLE) {
            Check.row(desk, 1, 2, x);
            check.due("9 no variable", desk.call(0), NONE);
        }
        for (int p : new int[] {Integer.MIN_VALUE, -1, 1, 60, Integer.MAX_VALUE}) {
            Check.row(desk, 1, 2, 3);
            check.due("9 no PREDICATE", desk.call(p), NONE);
            check.due("9 no PREDICATE and an empty row", desk.call(p), NONE);
        }
        Check.row(desk, 79, 0, 8);
        check.due("9 call", desk.call(0), 0);
        check.due("9 solve", desk.solve(), 0);
        check.due("9 typeOf(79)", desk.typeOf(79), 1);
        check.due("9 typeOf(0)", desk.typeOf(0), 0);
        check.due("9 typeOf(8)", desk.typeOf(8), 2);
        check.due("9 typeOf(1)", desk.typeOf(1), NONE);
        Check.row(desk, 8, 2, 3);
        check.due("9 call again", desk.call(0), 1);
        check.due("9 8 has another TYPE", desk.solve(), 1);
        check.due("9 told(0)", desk.told(0), 1);
    }

    private static void promise10Form() {
        KindDesk desk = Check.desk(1);
        for (int x : NO_VARIABLE) {
            check.due("10 form of none", desk.form(x, 0), NONE);
            Check.row(desk, 0, x);
            check.due("10 none in the row", desk.form(0, 0), NONE);
        }
        for (int name : new int[] {Integer.MIN_VALUE, -1, 200, Integer.MAX_VALUE}) {
            check.due("10 no NAME", desk.form(0, name), NONE);
        }
        Check.row(desk, 1, 2, 3, 4, 5);
        check.due("10 five variables", desk.form(0, 0), NONE);
        Check.row(desk, 1, 2, 3, 79);
        check.due("10 four variables, an unknown NAME", desk.form(0, 199), 0);
        check.due("10 NAME 0", desk.form(79, 0), 1);
        check.due("10 no CONSTRUCTOR has it", desk.solve(), 1);
        check.due("10 told(0)", desk.told(0), 0);
        Check.row(desk, 0, 0, 1, 1);
        desk.constructor(1, 199);
        check.due("10 now one has, but none has NAME 0", desk.solve(), 1);
        check.due("10 told(0) now", desk.told(0), 1);
        desk.constructor(1, 0);
        check.due("10 now all is well", desk.solve(), 0);
        check.due("10 typeOf(0)", desk.typeOf(0), 1);
        check.due("10 typeOf(1)", desk.typeOf(1), 0);
        check.due("10 typeOf(2)", desk.typeOf(2), 0);
        check.due("10 typeOf(3)", desk.typeOf(3), 1);
        check.due("10 typeOf(79)", desk.typeOf(79), 1);
    }

    private static void atMostTwoHundredDemands() {
        KindDesk desk = Check.desk(1);
        desk.constructor(1, 0);
        desk.predicate();
        Check.row(desk, 1);
        desk.predicate();
        for (int d = 0; d < 199; d++) {
            check.due("7 up to two hundred", desk.number(d % 40), d);
        }
        check.due("10 the last", desk.form(50, 0), 199);
        check.due("7 number beyond", desk.number(60), NONE);
        check.due("8 same beyond", desk.same(50, 61), NONE);
        check.due("9 call beyond", desk.call(0), NONE);
        Check.row(desk, 62);
        check.due("9 call with a variable beyond", desk.call(1), NONE);
        check.due("10 form beyond", desk.form(63, 0), NONE);
        Check.row(desk, 64);
        check.due("10 form with a variable beyond", desk.form(63, 0), NONE);
        for (int i = 0; i < 6; i++) {
            check.due("9, 10 they took the row", desk.put(i), true);
        }
        check.due("11 solve", desk.solve(), 0);
        check.due("14 meant(199)", desk.meant(199), 0);
        check.due("14 meant(200)", desk.meant(200), NONE);
        for (int x = 60; x < 65; x++) {
            check.due("13 refused DEMANDS have no variables", desk.typeOf(x), NONE);
        }
        desk.clause();
        check.due("6 room again", desk.number(0), 0);
    }
}
