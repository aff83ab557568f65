/** "TO SOLVE" and promises 11 to 14 at their boundaries: a method, or a desk, for each sentence. */
public final class SolvingEdgesTest {
    private static final int NONE = Desk.NONE;
    private static final int INT = 0;
    private static final Check check = new Check("SolvingEdgesTest");

    public static void main(String[] args) {
        groupsEachOneItsOwn();
        getsAType();
        joinWithOneType();
        joinWithTwoTypes();
        joinOfOneGroup();
        demandsFromZeroOn();
        callFromTheLeft();
        callOfOneVariable();
        formNoneFits();
        formOneAloneFits();
        formSeveralFit();
        formXInItsOwnFields();
        formSettledIsNotGoneThroughAgain();
        anotherRound();
        noOtherRound();
        theMostRounds();
        theFirstClashEndsAll();
        fault2TheFirstThatWaits();
        fault3TheLeastVariable();
        fault3OnlyVariablesOfADemand();
        promise11EmptyClause();
        promise11Again();
        promise12WithoutASolve();
        promise12WhatZero();
        promise12Rounds();
        promise12AnotherWhat();
        promise13NoDemandHasIt();
        promise13NoneSuch();
        promise14AnotherDemand();
        promise14NotSolved();
        toldByTheLatestThatWasZero();
        toldBehindNewTypesAndConstructors();
        check.end();
    }

    private static Desk desk(String sentence) {
        return new Desk(check, sentence);
    }

    /** PREDICATES 0 .. 3 have an ARGUMENT of that TYPE; NAME 5 is of TYPES 1, 2 and 3, without FIELDS. */
    private static Desk three(String sentence) {
        Desk desk = desk(sentence).types(3);
        for (int type = 0; type <= 3; type++) {
            desk.row(type).predicate(type);
        }
        return desk.constructor(1, 5, 0).constructor(2, 5, 1).constructor(3, 5, 2);
    }

    private static void groupsEachOneItsOwn() {
        Desk desk = three("GROUPS, each one its own at first");
        for (int x = 0; x < 80; x++) {
            desk.row(x).call(x % 4, x);
        }
        desk.solve(0, NONE, 2);
        for (int x = 0; x < 80; x++) {
            desk.typeOf(x, x % 4);
        }
    }

    private static void getsAType() {
        three("GETS: if its GROUP has none, that").row(1).call(3, 0).solve(0, NONE, 2).typeOf(1, 3);
        three("GETS: the one that it has").row(1).call(3, 0).row(1).call(3, 1).solve(0, NONE, 2).typeOf(1, 3);
        three("GETS: another one, a CLASH").row(1).call(3, 0).row(1).call(2, 1).solve(1, 1, 1);
        three("GETS: INT, and it has another one").row(1).call(1, 0).number(1, 1).solve(1, 1, 1);
        three("GETS: another one, and it has INT").number(1, 0).row(1).call(1, 1).solve(1, 1, 1);
        three("GETS: INT twice").number(1, 0).number(1, 1).row(1).call(0, 2).solve(0, NONE, 2).typeOf(1, 0);
        three("GETS: its GROUP").same(1, 2, 0).row(1).call(3, 1).row(2).call(2, 2).solve(1, 2, 1);
    }

    private static void joinWithOneType() {
        three("JOIN: the TYPE that the first has").row(1).call(2, 0).same(1, 2, 1).solve(0, NONE, 2).typeOf(2, 2);
        three("JOIN: the TYPE that the second has").row(2).call(2, 0).same(1, 2, 1).solve(0, NONE, 2).typeOf(1, 2);
        three("JOIN: INT that the first has").number(1, 0).same(1, 2, 1).solve(0, NONE, 2).typeOf(2, 0);
        three("JOIN: INT that the second has").number(2, 0).same(1, 2, 1).solve(0, NONE, 2).typeOf(1, 0);
        three("JOIN: none has one").same(1, 2, 0).solve(3, 1, 2).row(2).call(1, 1).solve(0, NONE, 2).typeOf(1, 1);
        three("JOIN: both have the same one").row(1).call(2, 0).row(2).call(2, 1).same(1, 2, 2).solve(0, NONE, 2);
        three("JOIN: all of both GROUPS").same(1, 2, 0).same(3, 4, 1).same(2, 3, 2).row(4).call(3, 3)
            .solve(0, NONE, 2).typeOf(1, 3).typeOf(2, 3).typeOf(3, 3).typeOf(4, 3);
        three("JOIN: all of both GROUPS, the other way").same(1, 2, 0).same(3, 4, 1).same(4, 1, 2).row(2).call(3, 3)
            .solve(0, NONE, 2).typeOf(1, 3).typeOf(2, 3).typeOf(3, 3).typeOf(4, 3);
        three("JOIN: the first variable and the last").same(79, 0, 0).number(0, 1).solve(0).typeOf(79, 0);
    }

    private static void joinWithTwoTypes() {
        three("JOIN: two different ones, a CLASH").row(1).call(1, 0).row(2).call(2, 1).same(1, 2, 2).solve(1, 2, 1);
        three("JOIN: INT and another one").number(1, 0).row(2).call(2, 1).same(1, 2, 2).solve(1, 2, 1);
        three("JOIN: another one and INT").number(1, 0).row(2).call(2, 1).same(2, 1, 2).solve(1, 2, 1);
        three("JOIN: two different ones through GROUPS").row(1).call(1, 0).same(1, 2, 1).row(4).call(2, 2)
            .same(4, 3, 3).same(3, 2, 4).solve(1, 4, 1);
    }

    private static void joinOfOneGroup() {
        three("JOIN: x with itself").same(7, 7, 0).solve(3, 7, 1).number(7, 1).solve(0, NONE, 2).typeOf(7, 0);
        three("JOIN: one GROUP already").same(7, 8, 0).same(8, 7, 1).same(7, 8, 2).solve(3, 7, 2);
        three("JOIN: a ring").same(7, 8, 0).same(8, 9, 1).same(9, 7, 2).number(9, 3).solve(0, NONE, 2)
            .typeOf(7, 0).typeOf(8, 0);
    }

    private static void demandsFromZeroOn() {
        three("DEMANDS from 0 on: told before asked").row(1).call(2, 0).form(1, 5, 1).solve(0, NONE, 2).meant(1, 1);
        three("DEMANDS from 0 on: asked before told").form(1, 5, 0).row(1).call(2, 1).solve(0, NONE, 3).meant(0, 1);
        three("DEMANDS from 0 on: the later one CLASHES").number(1, 0).row(1).call(1, 1).solve(1, 1, 1);
        three("DEMANDS from 0 on: the other order").row(1).call(1, 0).number(1, 1).solve(1, 1, 1);
    }

    private static void callFromTheLeft() {
        three("CALL: six variables, six ARGUMENTS").row(3, 2, 1, 0, 1, 2).predicate(4).row(79, 0, 40, 1, 39, 2)
            .call(4, 0).solve(0, NONE, 2).typeOf(79, 3).typeOf(0, 2).typeOf(40, 1).typeOf(1, 0).typeOf(39, 1)
            .typeOf(2, 2).typeOf(3, NONE);
        three("CALL: no variable").predicate(4).call(4, 0).solve(0, NONE, 1);
    }

    private static void callOfOneVariable() {
        three("CALL: one variable for ARGUMENTS of one TYPE").row(2, 2).predicate(4).row(1, 1).call(4, 0)
            .solve(0, NONE, 2).typeOf(1, 2);
        three("CALL: one variable for ARGUMENTS of two TYPES").row(2, 3).predicate(4).row(1, 1).call(4, 0).solve(1, 0, 1);
        three("CALL: the CLASH of its last variable").row(0, 0, 0, 0, 0, 3).predicate(4).number(6, 0)
            .row(1, 2, 3, 4, 5, 6).call(4, 1).solve(1, 1, 1);
        three("CALL: the CLASH of its first variable").row(3, 0, 0, 0, 0, 0).predicate(4).number(6, 0)
            .row(6, 2, 3, 4, 5, 1).call(4, 1).solve(1, 1, 1);
    }

    private static void formNoneFits() {
        three("FORM, none FITS: no such NAME").form(1, 4, 0).solve(1, 0, 1);
        three("FORM, none FITS: the NAME with other FIELDS").row(2).form(1, 5, 0).solve(1, 0, 1);
        three("FORM, none FITS: x is an INT").number(1, 0).form(1, 5, 1).solve(1, 1, 1);
        three("FORM, none FITS: x has another TYPE").type(4).row(4).predicate(4).row(1).call(4, 0).form(1, 5, 1).solve(1, 1, 1);
        three("FORM, none FITS: a FIELD's variable").row(0, 1).constructor(1, 6, 3).number(9, 0)
            .row(8, 9).form(1, 6, 1).solve(1, 1, 1);
        three("FORM, none FITS: in the second ROUND").form(1, 5, 0).number(1, 1).solve(1, 0, 2);
        three("FORM, none FITS: x and a variable want two").row(1).constructor(1, 6, 3).row(2).constructor(2, 6, 4)
            .row(1).call(1, 0).row(9).call(2, 1).row(9).form(1, 6, 2).solve(1, 2, 1);
    }

    private static void formOneAloneFits() {
        three("FORM, one alone: of its NAME there is one").row(0, 3).constructor(2, 6, 3).row(8, 9).form(1, 6, 0)
            .solve(0, NONE, 2).meant(0, 3).typeOf(1, 2).typeOf(8, 0).typeOf(9, 3);
        three("FORM, one alone: the first of three").row(1).call(1, 0).form(1, 5, 1).solve(0, NONE, 2).meant(1, 0);
        three("FORM, one alone: the last of three").row(1).call(3, 0).form(1, 5, 1).solve(0, NONE, 2).meant(1, 2);
        three("FORM, one alone: by its FIELDS' count").row(0).constructor(1, 5, 3).row(9).form(1, 5, 0)
            .solve(0, NONE, 2).meant(0, 3).typeOf(9, 0);
        three("FORM, one alone: by its last FIELD").row(0, 0, 0, 1).constructor(1, 6, 3).row(0, 0, 0, 2).constructor(1, 7, 4)
            .row(0, 0, 0, 2).constructor(2, 6, 5).row(9).call(2, 0).row(6, 7, 8, 9).form(1, 6, 1)
            .solve(0, NONE, 2).meant(1, 5).typeOf(1, 2).typeOf(6, 0);
        three("FORM, one alone: x GETS, the variables GET, then others CLASH").row(0, 3).constructor(2, 6, 3)
            .row(8, 9).form(1, 6, 0).number(9, 1).solve(1, 1, 1);
    }

    private static void formSeveralFit() {
        three("FORM, several: it waits").form(1, 5, 0).solve(2, 0, 1).meant(0, NONE).typeOf(1, NONE);
        three("FORM, several: two of three").row(1).constructor(1, 6, 3).row(1).constructor(2, 6, 4).row(2).constructor(3, 6, 5)
            .row(9).call(1, 0).row(9).form(8, 6, 1).solve(2, 1, 2).row(8).call(2, 2).solve(0, NONE, 3).meant(1, 4);
        three("FORM, several: nothing is got, though they agree on a FIELD").row(1).constructor(1, 6, 3)
            .row(1).constructor(2, 6, 4).row(9).form(8, 6, 0).solve(2, 0, 1);
        three("FORM, several: one variable for two FIELDS is looked at twice").row(0, 1).constructor(1, 6, 3)
            .row(2, 2).constructor(2, 6, 4).row(9, 9).form(8, 6, 0).solve(2, 0, 1).row(8).call(2, 1).solve(0, NONE, 3)
            .meant(0, 4).typeOf(9, 2);
    }

    private static void formXInItsOwnFields() {
        three("FORM: x in a FIELD of its own TYPE").row(1, 1).constructor(1, 6, 3).row(9, 9).form(9, 6, 0)
            .solve(0, NONE, 2).typeOf(9, 1).meant(0, 3);
        three("FORM: x in a FIELD of another TYPE").row(2).constructor(1, 6, 3).row(9).form(9, 6, 0).solve(1, 0, 1);
        three("FORM: one variable for two FIELDS of two TYPES").row(1, 2).constructor(1, 6, 3).row(8, 8).form(9, 6, 0)
            .solve(1, 0, 1);
        three("FORM: one GROUP for two FIELDS of two TYPES").row(1, 2).constructor(1, 6, 3).same(7, 8, 0).row(7, 8).form(9, 6, 1)
            .solve(1, 1, 1);
    }

    private static void formSettledIsNotGoneThroughAgain() {
        three("FORM, if it isn't SETTLED").row(0).constructor(1, 6, 3).row(8).form(9, 6, 0).form(9, 5, 1)
            .solve(0, NONE, 2).meant(0, 3).meant(1, 0);
    }

    private static void anotherRound() {
        desk("ROUNDS, another one: a GROUP got a TYPE").number(1, 0).solve(0, NONE, 2);
        desk("ROUNDS, another one: GROUPS became one").same(1, 2, 0).solve(3, 1, 2);
        three("ROUNDS, another one: a FORM was SETTLED alone").form(1, 5, 0).row(1).call(1, 1).solve(0, NONE, 3);
        three("ROUNDS, another one: a FORM got a TYPE that others wait for").form(2, 5, 0).row(1, 1).constructor(1, 6, 3)
            .row(2, 3).form(4, 6, 1).solve(0, NONE, 3).meant(0, 0).meant(1, 3);
    }

    private static void noOtherRound() {
        desk("ROUNDS, no other one: no DEMAND").solve(0, NONE, 1);
        desk("ROUNDS, no other one: x and x").same(1, 1, 0).solve(3, 1, 1);
        three("ROUNDS, no other one: FORMS wait").form(1, 5, 0).form(2, 5, 1).solve(2, 0, 1);
        desk("ROUNDS, no other one: a CLASH in the first").form(1, 0, 0).solve(1, 0, 1);
        desk("ROUNDS, no other one: a CLASH behind changes").number(1, 0).same(1, 2, 1).form(1, 0, 2).solve(1, 2, 1);
        desk("ROUNDS, no other one: the TYPE is there already").number(1, 0).number(1, 1).same(1, 1, 2).solve(0, NONE, 2);
    }

    /** Each FORM learns its TYPE from the one behind it; demand 0 is SETTLED alone when all TYPES are there. */
    private static void theMostRounds() {
        Desk desk = desk("ROUNDS: as many as eighty variables can need").types(2);
        for (int type = 1; type <= 2; type++) {
            desk.constructor(type, 5, 2 * type - 2).row(type).constructor(type, 6, 2 * type - 1);
        }
        desk.row(2).predicate(0).form(0, 5, 0);
        for (int x = 0; x < 79; x++) {
            desk.row(x + 1).form(x, 6, x + 1);
        }
        desk.row(79).call(0, 80).solve(0, NONE, 82);
        for (int x = 0; x < 80; x++) {
            desk.typeOf(x, 2);
        }
        for (int demand = 1; demand < 80; demand++) {
            desk.meant(demand, 3);
        }
        desk.meant(0, 2).meant(80, NONE);
    }

    private static void theFirstClashEndsAll() {
        three("the first CLASH: of two in one ROUND").form(1, 50, 0).form(1, 51, 1).solve(1, 0, 1);
        three("the first CLASH: a later DEMAND in an earlier ROUND").form(1, 5, 0).number(1, 1).form(2, 50, 2).solve(1, 2, 1);
        three("the first CLASH: before a FORM that waits").form(1, 5, 0).number(2, 1).row(2).call(1, 2).solve(1, 2, 1);
        three("the first CLASH: before a variable without a TYPE").same(1, 2, 0).form(3, 50, 1).solve(1, 1, 1);
    }

    private static void fault2TheFirstThatWaits() {
        three("FAULT 2: the first such").number(9, 0).form(3, 5, 1).form(2, 5, 2).form(1, 5, 3).solve(2, 1, 2);
        three("FAULT 2: the first that waits still").form(3, 5, 0).form(2, 5, 1).row(3).call(1, 2).solve(2, 1, 3);
        three("FAULT 2: DEMAND 0").form(3, 5, 0).solve(2, 0, 1);
        three("FAULT 2: before a variable without a TYPE").same(0, 1, 0).form(3, 5, 1).solve(2, 1, 2);
    }

    private static void fault3TheLeastVariable() {
        desk("FAULT 3: the least such variable").same(50, 40, 0).same(30, 60, 1).solve(3, 30, 2);
        desk("FAULT 3: not one that has a TYPE").number(10, 0).same(10, 11, 1).same(50, 40, 2).solve(3, 40, 2);
        desk("FAULT 3: variable 0").same(5, 0, 0).solve(3, 0, 2);
        desk("FAULT 3: variable 79").same(79, 79, 0).solve(3, 79, 1);
        desk("FAULT 3: none when the GROUP has a TYPE").same(5, 0, 0).number(5, 1).solve(0, NONE, 2);
    }

    private static void fault3OnlyVariablesOfADemand() {
        desk("FAULT 3: a variable that a DEMAND has").number(79, 0).solve(0, NONE, 2).typeOf(0, NONE).typeOf(78, NONE);
        desk("FAULT 3: not one of a refused DEMAND").same(5, 80, NONE).row(6, 80).form(5, 0, NONE).solve(0, NONE, 1);
    }

    private static void promise11EmptyClause() {
        desk("11 no DEMANDS: 0").solve(0, NONE, 1).solve(0, NONE, 1).typeOf(0, NONE).meant(0, NONE);
    }

    private static void promise11Again() {
        three("11 again without a change: the same").form(1, 5, 0).same(1, 2, 1).solve(2, 0, 2).solve(2, 0, 2)
            .row(2).call(3, 2).solve(0, NONE, 3).solve(0, NONE, 3).number(1, 3).solve(1, 3, 1).solve(1, 3, 1)
            .form(1, 50, 4).solve(1, 3, 1);
    }

    private static void promise12WithoutASolve() {
        desk("12 NONE without a solve()").told(0, NONE).told(1, NONE).number(0, 0).told(0, NONE).told(1, NONE);
        desk("12 NONE without a solve() of this CLAUSE").form(0, 0, 0).solve(1, 0, 1).clause().told(0, NONE).told(1, NONE)
            .number(0, 0).told(0, NONE).told(1, NONE);
    }

    private static void promise12WhatZero() {
        desk("12 NONE with 0 for what 0").number(0, 0).solve(0).told(0, NONE).told(1, 2);
        desk("12 NONE with 0 behind a FAULT").same(0, 1, 0).solve(3, 0, 2).number(0, 1).told(0, 0).solve(0, NONE, 2);
        three("12 the DEMAND of a CLASH").number(9, 0).form(1, 50, 1).solve(1).told(0, 1);
        three("12 the DEMAND that waits").number(9, 0).form(1, 5, 1).solve(2).told(0, 1);
        three("12 with FAULT 3 the variable").number(9, 0).same(77, 78, 1).solve(3).told(0, 77);
        three("12 of the latest solve()").form(1, 5, 0).solve(2, 0, 1).number(2, 1).row(2).call(1, 2).told(0, 0).told(1, 1)
            .solve(1, 2, 1).number(1, 3).told(0, 2);
    }

    private static void promise12Rounds() {
        desk("12 ROUNDS begun: one that a CLASH ended").number(0, 0).form(0, 0, 1).solve(1).told(1, 1);
        three("12 ROUNDS begun: the second, that a CLASH ended").form(1, 5, 0).number(1, 1).solve(1).told(1, 2);
        desk("12 ROUNDS begun: the last, in which nothing happened").number(0, 0).solve(0).told(1, 2);
        desk("12 ROUNDS begun: without DEMANDS").solve(0).told(1, 1);
    }

    private static void promise12AnotherWhat() {
        Desk desk = desk("12 NONE for another what").same(0, 1, 0);
        for (int what : Desk.outside(2)) {
            desk.told(what, NONE);
        }
        desk.solve(3, 0, 2);
        for (int what : Desk.outside(2)) {
            desk.told(what, NONE);
        }
    }

    private static void promise13NoDemandHasIt() {
        desk("13 NONE when no DEMAND has it").number(40, 0).solve(0).typeOf(40, 0).typeOf(39, NONE).typeOf(41, NONE)
            .typeOf(0, NONE).typeOf(79, NONE);
        desk("13 NONE when no DEMAND that was SOLVED has it: before a solve()").number(40, 0).typeOf(40, NONE);
        desk("13 NONE when no DEMAND that was SOLVED has it: one came behind").number(40, 0).solve(0).number(41, 1)
            .typeOf(41, NONE).typeOf(40, 0).solve(0).typeOf(41, 0);
        three("13 NONE when no DEMAND that was SOLVED has it: a FAULT").number(40, 0).form(41, 5, 1).solve(2).typeOf(40, NONE)
            .typeOf(41, NONE);
    }

    private static void promise13NoneSuch() {
        Desk desk = desk("13 NONE when there is none such").number(0, 0).number(79, 1).typeOf(80, NONE).solve(0);
        for (int x : Desk.outside(80)) {
            desk.typeOf(x, NONE);
        }
        desk.typeOf(0, 0).typeOf(79, 0);
    }

    private static void promise14AnotherDemand() {
        Desk desk = three("14 NONE for another DEMAND").row(1).call(2, 0).number(3, 1).same(1, 2, 2).form(2, 5, 3).solve(0, NONE, 2)
            .meant(0, NONE).meant(1, NONE).meant(2, NONE).meant(3, 1).meant(4, NONE).meant(199, NONE);
        for (int demand : Desk.outside(200)) {
            desk.meant(demand, NONE);
        }
    }

    private static void promise14NotSolved() {
        three("14 NONE for one that was not SOLVED: before a solve()").row(1).call(2, 0).form(1, 5, 1).meant(1, NONE);
        three("14 NONE for one that was not SOLVED: it came behind").row(1).call(2, 0).form(1, 5, 1).solve(0).form(1, 5, 2)
            .meant(1, 1).meant(2, NONE).solve(0).meant(2, 1);
        three("14 NONE for one that was not SOLVED: SETTLED before a CLASH").row(1).call(2, 0).form(1, 5, 1).number(1, 2)
            .solve(1, 2, 1).meant(1, NONE);
        three("14 NONE for one that was not SOLVED: SETTLED, another waits").row(1).call(2, 0).form(1, 5, 1).form(7, 5, 2)
            .solve(2, 2, 2).meant(1, NONE).meant(2, NONE);
        three("14 NONE for one that was not SOLVED: SETTLED, a variable has no TYPE").row(1).call(2, 0).form(1, 5, 1)
            .same(7, 7, 2).solve(3, 7, 2).meant(1, NONE).typeOf(1, NONE);
    }

    private static void toldByTheLatestThatWasZero() {
        for (int fault = 1; fault <= 3; fault++) {
            Desk desk = three("told by the latest SOLVING that was 0, also behind FAULT " + fault);
            desk.row(1).call(2, 0).form(1, 5, 1).number(3, 2).solve(0, NONE, 2);
            if (fault == 1) {
                desk.form(4, 5, 3).row(4).call(3, 4).number(1, 5).solve(1, 5, 1);
            } else if (fault == 2) {
                desk.form(4, 5, 3).number(5, 4).solve(2, 3, 2);
            } else {
                desk.same(4, 4, 3).number(5, 4).solve(3, 4, 2);
            }
            desk.typeOf(1, 2).meant(1, 1).typeOf(3, 0).typeOf(4, NONE).typeOf(5, NONE).meant(3, NONE);
        }
        three("told by the latest SOLVING that was 0: a later one").number(1, 0).solve(0).form(2, 5, 1).solve(2, 1, 2)
            .typeOf(1, 0).typeOf(2, NONE).row(2).call(3, 2).solve(0, NONE, 3).typeOf(1, 0).typeOf(2, 3).meant(1, 2);
        desk("told by the latest SOLVING that was 0: one without DEMANDS").solve(0).number(1, 0).typeOf(1, NONE)
            .same(2, 2, 1).solve(3, 2, 2).typeOf(1, NONE);
    }

    private static void toldBehindNewTypesAndConstructors() {
        desk("what was MEANT stays when CONSTRUCTORS come").types(1).constructor(1, 5, 0).form(9, 5, 0).solve(0, NONE, 2)
            .type(2).constructor(2, 5, 1).typeOf(9, 1).meant(0, 0).solve(2, 0, 1).typeOf(9, 1).meant(0, 0)
            .row(2).predicate(0).row(9).call(0, 1).solve(0, NONE, 3).typeOf(9, 2).meant(0, 1);
        desk("INT is no TYPE of a FORM").types(1).constructor(1, 5, 0).row(INT).predicate(0).row(9).call(0, 0).form(9, 5, 1)
            .solve(1, 1, 1);
    }
}
