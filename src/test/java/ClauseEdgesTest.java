/** Promises 6 to 10 at their boundaries, and the 512 calls: a method, or a desk, for each sentence. */
public final class ClauseEdgesTest {
    private static final int NONE = Desk.NONE;
    private static final int INT = 0;
    private static final Check check = new Check("ClauseEdgesTest");

    public static void main(String[] args) {
        oneIsAtWorkFromTheFirst();
        promise6WithoutDemands();
        promise6TheRowIsEmpty();
        promise6NoSolvingYet();
        promise6WhatStays();
        promise6NothingOfTheOldOne();
        promise7Variables();
        promise7RefusedWhenThereAre200();
        promise8Variables();
        promise8RefusedWhenThereAre200();
        promise9NoSuchPredicate();
        promise9NotAsManyAsArguments();
        promise9AVariable();
        promise9RefusedWhenThereAre200();
        promise9AnEmptyRow();
        promise10X();
        promise10AVariable();
        promise10Name();
        promise10MoreThanFour();
        promise10ANameOfNone();
        promise10RefusedWhenThereAre200();
        aRefusedDemandLeavesNoTrace();
        theLastDemandOfEachSort();
        allThatThereMayBeAtOnce();
        theLastOf512Calls();
        check.end();
    }

    private static Desk desk(String sentence) {
        return new Desk(check, sentence);
    }

    private static Desk numbers(Desk desk, int from, int to) {
        for (int d = from; d < to; d++) {
            desk.number(d % 40, d);
        }
        return desk;
    }

    private static void oneIsAtWorkFromTheFirst() {
        desk("Terms, a CLAUSE is at work: number").number(0, 0).solve(0);
        desk("Terms, a CLAUSE is at work: same").same(0, 1, 0).solve(3);
        desk("Terms, a CLAUSE is at work: form").form(0, 0, 0).solve(1);
        desk("Terms, a CLAUSE is at work: call").predicate(0).call(0, 0).solve(0);
    }

    private static void promise6WithoutDemands() {
        numbers(desk("6 without DEMANDS: 200 before"), 0, 200).number(0, NONE).clause()
            .solve(0, NONE, 1).typeOf(0, NONE).number(5, 0).same(5, 6, 1).form(7, 0, 2);
        desk("6 without DEMANDS: none before").clause().clause().solve(0, NONE, 1).number(5, 0);
        Desk twice = numbers(desk("6 without DEMANDS: 200 twice"), 0, 200).clause();
        numbers(twice, 0, 200).number(0, NONE);
    }

    private static void promise6TheRowIsEmpty() {
        desk("6 the row is empty: six before").row(1, 2, 3, 4, 5, 6).clause().rowHas(0);
        desk("6 the row is empty: one before").row(79).clause().form(0, 0, 0).predicate(0);
        desk("6 the row is empty: none before").clause().rowHas(0);
    }

    private static void promise6NoSolvingYet() {
        desk("6 a new CLAUSE has none: 0 before").types(1).constructor(1, 0, 0).form(3, 0, 0).number(4, 1)
            .solve(0).clause().told(0, NONE).told(1, NONE).typeOf(3, NONE).typeOf(4, NONE).meant(0, NONE)
            .form(3, 0, 0).typeOf(3, NONE).meant(0, NONE).told(1, NONE).solve(0).typeOf(3, 1).typeOf(4, NONE);
        desk("6 a new CLAUSE has none: a FAULT before").form(3, 0, 0).solve(1, 0, 1).clause()
            .told(0, NONE).told(1, NONE).same(9, 9, 0).told(0, NONE).solve(3, 9, 1);
        desk("6 a new CLAUSE has none: a FAULT in it").types(1).constructor(1, 0, 0).form(3, 0, 0).solve(0)
            .clause().form(3, 0, 0).number(3, 1).solve(1, 1, 1).typeOf(3, NONE).meant(0, NONE);
    }

    private static void promise6WhatStays() {
        Desk desk = desk("6 a new CLAUSE is at work, the rest stays").types(23);
        for (int c = 0; c < 100; c++) {
            desk.constructor(23, c, c);
        }
        for (int p = 0; p < 59; p++) {
            desk.predicate(p);
        }
        desk.row(1, 0, 23).predicate(59).clause().type(NONE).constructor(1, 0, NONE).predicate(NONE)
            .many(23, 100).aboutAll(99, 23, 99).constructorOf(23, 99, 99).find(23, 0, 0, 0)
            .row(7, 8, 9).call(59, 0).solve(0).typeOf(7, 1).typeOf(8, 0).typeOf(9, 23);
    }

    private static void promise6NothingOfTheOldOne() {
        desk("6 nothing of the old GROUPS").same(1, 2, 0).number(1, 1).solve(0).clause().same(2, 3, 0)
            .solve(3, 2, 2).number(3, 1).solve(0).typeOf(1, NONE).typeOf(2, 0);
        Desk all = desk("6 nothing of the old GROUPS: one of all eighty").types(1).row(1).predicate(0);
        for (int x = 78; x >= 0; x--) {
            all.same(x + 1, x, 78 - x);
        }
        all.solve(3, 0, 2).clause();
        for (int x = 0; x < 80; x += 2) {
            all.number(x, x).row(x + 1).call(0, x + 1);
        }
        all.solve(0, NONE, 2);
        for (int x = 0; x < 80; x++) {
            all.typeOf(x, x % 2);
        }
        desk("6 nothing of the old DEMANDS behind the new ones").number(0, 0).form(1, 0, 1).same(2, 2, 2).solve(1, 1, 1)
            .clause().number(0, 0).solve(0, NONE, 2).same(0, 3, 1).solve(0, NONE, 2).typeOf(1, NONE).typeOf(2, NONE);
        desk("6 nothing of the old variables").row(0, 0, 0, 0, 0, 0).predicate(0).row(1, 2, 3, 4, 5, 6).call(0, 0)
            .solve(0).clause().number(9, 0).solve(0).typeOf(9, 0).typeOf(1, NONE).typeOf(2, NONE).typeOf(6, NONE)
            .clause().same(7, 7, 0).solve(3, 7, 1);
        desk("6 nothing of the old meanings").types(2).constructor(1, 0, 0).form(1, 0, 0).number(2, 1).solve(0)
            .clause().number(1, 0).number(2, 1).solve(0, NONE, 2).meant(0, NONE).meant(1, NONE)
            .clause().form(1, 0, 0).solve(0, NONE, 2).meant(0, 0).constructor(2, 0, 1).solve(2, 0, 1).meant(0, 0);
    }

    private static void promise7Variables() {
        Desk desk = desk("7 refused when x isn't 0 .. 79");
        for (int x : Desk.outside(80)) {
            desk.number(x, NONE);
        }
        desk.solve(0, NONE, 1).number(0, 0).number(79, 1).number(80, NONE).number(-1, NONE).number(79, 2)
            .solve(0, NONE, 2).typeOf(0, 0).typeOf(79, 0).typeOf(1, NONE).typeOf(78, NONE);
    }

    private static void promise7RefusedWhenThereAre200() {
        numbers(desk("7 NONE, refused, when there are 200"), 0, 199).row(3).number(79, 199).number(78, NONE)
            .number(0, NONE).number(80, NONE).rowHas(1).solve(0).typeOf(79, 0).typeOf(78, NONE);
    }

    private static void promise8Variables() {
        Desk desk = desk("8 refused when one isn't 0 .. 79");
        for (int wrong : Desk.outside(80)) {
            desk.same(wrong, 0, NONE).same(0, wrong, NONE).same(wrong, wrong, NONE);
        }
        desk.solve(0, NONE, 1).same(0, 79, 0).same(79, 0, 1).same(40, 40, 2).number(79, 3).number(40, 4)
            .solve(0, NONE, 2).typeOf(0, 0).typeOf(79, 0).typeOf(40, 0).typeOf(1, NONE);
    }

    private static void promise8RefusedWhenThereAre200() {
        numbers(desk("8 NONE, refused, when there are 200"), 0, 199).row(3).same(79, 0, 199).same(78, 0, NONE)
            .same(0, 0, NONE).same(80, 0, NONE).rowHas(1).solve(0).typeOf(79, 0).typeOf(78, NONE);
    }

    private static void promise9NoSuchPredicate() {
        Desk desk = desk("9 refused when there is no such PREDICATE").call(0, NONE).predicate(0).row(0).predicate(1);
        for (int predicate : Desk.outside(2)) {
            desk.call(predicate, NONE).row(5).call(predicate, NONE);
        }
        desk.row(1, 2, 3).call(2, NONE).rowHas(0).predicate(2).call(2, 0).call(0, 1).row(5).call(1, 2);
    }

    private static void promise9NotAsManyAsArguments() {
        Desk desk = desk("9 refused when the row has not as many as it has ARGUMENTS");
        for (int p = 0; p <= 6; p++) {
            for (int k = 0; k < p; k++) {
                desk.row(INT);
            }
            desk.predicate(p);
        }
        int made = 0;
        for (int p = 0; p <= 6; p++) {
            for (int count = 0; count <= 6; count++) {
                for (int k = 0; k < count; k++) {
                    desk.row(k);
                }
                desk.call(p, count == p ? made++ : NONE);
            }
        }
        desk.rowHas(0).solve(0).typeOf(5, 0).typeOf(6, NONE);
    }

    private static void promise9AVariable() {
        Desk desk = desk("9 refused when the row has one that isn't 0 .. 79").row(0).predicate(0);
        for (int x : Desk.outside(80)) {
            desk.row(x).call(0, NONE);
        }
        desk.rowHas(0).row(79).call(0, 0).row(0).call(0, 1).solve(0).typeOf(79, 0).typeOf(0, 0).typeOf(1, NONE);
        Desk places = desk("9 refused when the row has one that isn't 0 .. 79, wherever").row(0, 0, 0, 0, 0, 0).predicate(0);
        for (int place = 0; place < 6; place++) {
            for (int k = 0; k < 6; k++) {
                places.row(k == place ? 80 : 79);
            }
            places.call(0, NONE);
        }
        places.rowHas(0).solve(0).typeOf(79, NONE).row(79, 79, 79, 79, 79, 79).call(0, 0);
    }

    private static void promise9RefusedWhenThereAre200() {
        Desk desk = desk("9 NONE, refused, when there are 200").predicate(0).row(0).predicate(1);
        numbers(desk, 0, 199).row(79).call(1, 199).row(78).call(1, NONE).rowHas(0).call(0, NONE)
            .call(2, NONE).row(80).call(1, NONE).rowHas(0).solve(0).typeOf(79, 0).typeOf(78, NONE);
    }

    private static void promise9AnEmptyRow() {
        desk("9 as many as it has ARGUMENTS: none").predicate(0).call(0, 0).call(0, 1).row(1).call(0, NONE)
            .rowHas(0).solve(0, NONE, 1).typeOf(0, NONE).meant(0, NONE);
    }

    private static void promise10X() {
        Desk desk = desk("10 refused when x isn't 0 .. 79").types(1).constructor(1, 0, 0).row(0).constructor(1, 0, 1);
        for (int x : Desk.outside(80)) {
            desk.form(x, 0, NONE).row(5).form(x, 0, NONE);
        }
        desk.row(1, 2).form(80, 0, NONE).rowHas(0).solve(0, NONE, 1).form(0, 0, 0).form(79, 0, 1)
            .solve(0).typeOf(0, 1).typeOf(79, 1).typeOf(5, NONE);
    }

    private static void promise10AVariable() {
        Desk desk = desk("10 refused when one of the row isn't 0 .. 79");
        for (int x : Desk.outside(80)) {
            desk.row(x).form(0, 0, NONE);
        }
        desk.rowHas(0).row(79).form(0, 0, 0).row(0).form(0, 0, 1);
        Desk places = desk("10 refused when one of the row isn't 0 .. 79, wherever");
        for (int place = 0; place < 4; place++) {
            for (int k = 0; k < 4; k++) {
                places.row(k == place ? 80 : 79);
            }
            places.form(0, 0, NONE);
        }
        places.rowHas(0).solve(0, NONE, 1).row(79, 79, 79, 79).form(0, 0, 0);
    }

    private static void promise10Name() {
        Desk desk = desk("10 refused when name isn't 0 .. 199").types(1).constructor(1, 0, 0).constructor(1, 199, 1);
        for (int name : Desk.outside(200)) {
            desk.row(1).form(0, name, NONE);
        }
        desk.rowHas(0).solve(0, NONE, 1).form(0, 0, 0).form(1, 199, 1).solve(0).meant(0, 0).meant(1, 1);
    }

    private static void promise10MoreThanFour() {
        desk("10 refused when the row has more than 4: 5").row(1, 2, 3, 4, 5).form(0, 0, NONE).rowHas(0).solve(0, NONE, 1);
        desk("10 refused when the row has more than 4: 6").row(1, 2, 3, 4, 5, 6).form(0, 0, NONE).rowHas(0).solve(0, NONE, 1);
        desk("10 not with 4").types(3).row(0, 1, 2, 3).constructor(1, 0, 0).row(76, 77, 78, 79).form(0, 0, 0)
            .solve(0).typeOf(0, 1).typeOf(76, 0).typeOf(77, 1).typeOf(78, 2).typeOf(79, 3).meant(0, 0);
        desk("10 not with none").types(1).constructor(1, 0, 0).form(0, 0, 0).solve(0).typeOf(0, 1).meant(0, 0);
    }

    private static void promise10ANameOfNone() {
        desk("10 the NAME may be none that a CONSTRUCTOR has").form(0, 0, 0).form(0, 199, 1).row(1, 2, 3, 4)
            .form(0, 100, 2).solve(1, 0, 1);
        desk("10 the NAME may be none yet").types(1).form(0, 7, 0).solve(1, 0, 1).constructor(1, 7, 0).solve(0, NONE, 2)
            .meant(0, 0);
        desk("10 nor with as many FIELDS").types(1).constructor(1, 7, 0).row(1).form(0, 7, 0).solve(1, 0, 1);
    }

    private static void promise10RefusedWhenThereAre200() {
        Desk desk = desk("10 NONE, refused, when there are 200").types(1).constructor(1, 0, 0).row(1).constructor(1, 0, 1);
        numbers(desk, 0, 199).row(79).form(78, 0, 199).row(77).form(76, 0, NONE).rowHas(0).form(76, 0, NONE)
            .row(80).form(76, 0, NONE).rowHas(0).solve(0).typeOf(79, 1).typeOf(78, 1).typeOf(77, NONE)
            .typeOf(76, NONE).meant(199, 1).meant(200, NONE);
    }

    private static void aRefusedDemandLeavesNoTrace() {
        desk("7 to 10 a refused one has no number, and the SOLVING stays").types(1).constructor(1, 0, 0)
            .row(1).predicate(0).form(2, 0, 0).solve(0, NONE, 2)
            .number(80, NONE).same(2, 80, NONE).same(-1, 2, NONE).row(80).call(0, NONE).row(2).call(1, NONE)
            .form(2, 200, NONE).form(80, 0, NONE).row(80).form(2, 0, NONE)
            .told(0, NONE).told(1, 2).typeOf(2, 1).meant(0, 0).solve(0, NONE, 2).meant(1, NONE).number(3, 1);
    }

    private static void theLastDemandOfEachSort() {
        Desk desk = desk("Terms, at most 200 DEMANDS: the CLASH of the last").types(1).row(0, 0, 0, 0, 0, 1).predicate(0)
            .constructor(1, 0, 0);
        numbers(desk, 0, 198).form(50, 0, 198).number(50, 199).solve(1, 199, 1).told(2, NONE);
        Desk six = desk("Terms, at most 200 DEMANDS: the last one's six variables").types(1).row(0, 0, 0, 0, 0, 1).predicate(0);
        numbers(six, 0, 199).row(74, 75, 76, 77, 78, 79).call(0, 199).solve(0, NONE, 2)
            .typeOf(74, 0).typeOf(78, 0).typeOf(79, 1).meant(199, NONE);
        Desk waits = desk("Terms, at most 200 DEMANDS: the last one waits").types(2).constructor(1, 0, 0).constructor(2, 0, 1);
        numbers(waits, 0, 199).form(79, 0, 199).solve(2, 199, 2).meant(199, NONE).typeOf(0, NONE);
        Desk lacks = desk("Terms, at most 200 DEMANDS: the last one's variable has no TYPE");
        numbers(lacks, 0, 199).same(79, 78, 199).solve(3, 78, 2).typeOf(0, NONE);
    }

    /** 24 TYPES, 100 CONSTRUCTORS, 60 PREDICATES and 200 DEMANDS of one object, with the last of each in use. */
    private static void allThatThereMayBeAtOnce() {
        Desk desk = desk("Terms, all that there may be at once").types(23);
        for (int c = 0; c < 99; c++) {
            desk.constructor(1 + c % 22, c, c);
        }
        desk.row(23, 22, INT, 23).constructor(23, 199, 99);
        for (int p = 0; p < 59; p++) {
            desk.predicate(p);
        }
        desk.row(23, INT).predicate(59);
        for (int d = 0; d < 197; d++) {
            desk.call(d % 59, d);
        }
        desk.row(78, 77, 76, 75).form(79, 199, 197).row(75, 76).call(59, 198).same(78, 74, 199);
        desk.type(NONE).constructor(2, 0, NONE).predicate(NONE).number(0, NONE).same(0, 0, NONE).call(0, NONE)
            .form(0, 0, NONE).solve(0, NONE, 2).typeOf(79, 23).typeOf(78, 23).typeOf(77, 22).typeOf(76, 0)
            .typeOf(75, 23).typeOf(74, 23).typeOf(73, NONE).meant(197, 99).meant(198, NONE).meant(199, NONE);
    }

    /** Behind the last promised call the answers are free, but the language's rule 7 still lets none throw. */
    private static void theLastOf512Calls() {
        Desk desk = desk("At most 512 calls: the last one").types(1).constructor(1, 0, 0).form(5, 0, 0).solve(0);
        while (desk.calls() < Desk.MOST_CALLS - 1) {
            desk.put(0, desk.calls() < 10);
        }
        desk.typeOf(5, 1);
        check.due("the run had its 512 calls", desk.calls(), 512);
        KindDesk later = new KindDesk();
        for (int i = 0; i < 2000; i++) {
            later.type();
            later.put(i);
            later.constructor(1, i % 200);
            later.put(1);
            later.predicate();
            later.put(i % 80);
            later.call(i % 60);
            later.form(i % 80, i % 200);
            later.same(i % 80, (i + 1) % 80);
            later.number(i % 80);
        }
        later.solve();
        check.due("calls behind the 512th end, whatever they answer", true, true);
    }
}
