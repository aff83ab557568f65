/** Promises 1 to 5 and 15 to 18 at their boundaries: a method, or a desk, for each sentence that names one. */
public final class CatalogEdgesTest {
    private static final int NONE = Desk.NONE;
    private static final int INT = 0;
    private static final Check check = new Check("CatalogEdgesTest");

    public static void main(String[] args) {
        theFaceNone();
        promise1IntAlone();
        promise1NothingElse();
        promise1TheRowIsEmpty();
        promise1EachObjectItsOwn();
        promise2RefusedWhenThereAre24();
        promise2TheLastTypeIsOne();
        promise3AtMostSix();
        promise3ARefusedPutChangesNothing();
        promise3AnyNumberMayCome();
        promise3CallsThatTakeTheRow();
        promise3CallsThatLeaveTheRow();
        promise4RefusedWhenThereAre100();
        promise4TheTypeIsNotThere();
        promise4TheTypeIsInt();
        promise4TheName();
        promise4MoreThanFourFields();
        promise4AFieldThatIsNoType();
        promise4OneWithNameAndCount();
        promise4OfSeveralTypes();
        promise4ARefusalLeavesNoTrace();
        promise5RefusedWhenThereAre60();
        promise5AnArgumentThatIsNoType();
        promise5NoneToSixArguments();
        promise15WhatFromTo();
        promise15NoSuchConstructor();
        promise15FieldsOfANeighbour();
        promise16NotThereAndInt();
        promise16EmptyAndFull();
        promise17TheFirstAndTheLast();
        promise17NoneSuch();
        promise18NoneSuch();
        promise18NoneForAll();
        promise18EveryCount();
        check.end();
    }

    private static Desk desk(String sentence) {
        return new Desk(check, sentence);
    }

    private static void theFaceNone() {
        check.due("the face: NONE", KindDesk.NONE, -1);
    }

    private static void promise1IntAlone() {
        desk("1 INT alone").many(INT, 0).many(1, NONE).constructor(1, 0, NONE)
            .row(1).predicate(NONE).row(INT).predicate(0).type(1).many(1, 0);
    }

    private static void promise1NothingElse() {
        Desk desk = desk("1 no CONSTRUCTORS");
        for (int what = -1; what < 8; what++) {
            desk.about(0, what, NONE);
        }
        desk.constructorOf(INT, 0, NONE).find(INT, 0, 0, NONE).type(1).constructor(1, 0, 0);
        desk("1 no PREDICATES").call(0, NONE).predicate(0).call(0, 0);
        desk("1 no DEMANDS").meant(0, NONE).typeOf(0, NONE).told(0, NONE).told(1, NONE)
            .solve(0, NONE, 1).number(0, 0);
    }

    private static void promise1TheRowIsEmpty() {
        desk("1 the row is empty").rowHas(0);
        desk("1 the row is empty, for form").form(0, 0, 0);
        desk("1 the row is empty, for predicate").predicate(0).call(0, 0);
        desk("1 the row is empty, for constructor").types(1).constructor(1, 0, 0).about(0, 2, 0);
    }

    private static void promise1EachObjectItsOwn() {
        Desk full = desk("1 the object before").types(23).constructor(1, 0, 0).predicate(0)
            .form(0, 0, 0).solve(0).row(1, 2, 3);
        desk("1 a new object beside another").many(1, NONE).about(0, 0, NONE).call(0, NONE)
            .typeOf(0, NONE).meant(0, NONE).told(1, NONE).rowHas(0).type(1).number(0, 0);
        full.type(NONE).about(0, 0, 1).typeOf(0, 1).meant(0, 0).rowHas(3);
    }

    private static void promise2RefusedWhenThereAre24() {
        Desk desk = desk("2 NONE, refused, when there are 24");
        for (int t = 1; t <= 23; t++) {
            desk.many(t, NONE).type(t).many(t, 0);
        }
        desk.type(NONE).type(NONE).many(23, 0).many(24, NONE).many(25, NONE);
        desk.row(24).constructor(1, 0, NONE).row(24).predicate(NONE).constructor(24, 0, NONE);
        desk("2 refused, the row stays").types(23).row(23, 0).type(NONE).type(NONE)
            .constructor(1, 0, 0).aboutAll(0, 1, 0, 23, 0);
    }

    private static void promise2TheLastTypeIsOne() {
        desk("2 a new TYPE: the last is one in all").types(23).row(23, 22, 1, 0).constructor(23, 199, 0)
            .aboutAll(0, 23, 199, 23, 22, 1, 0).many(23, 1).constructorOf(23, 0, 0).find(23, 199, 4, 0)
            .row(23).predicate(0).row(79).call(0, 0).solve(0).typeOf(79, 23);
    }

    private static void promise3AtMostSix() {
        Desk desk = desk("3 at most 6; false, refused, when there are 6");
        for (int i = 0; i < 6; i++) {
            desk.put(0, true);
        }
        desk.put(0, false).put(1, false).put(Integer.MIN_VALUE, false).predicate(0);
        for (int i = 0; i < 6; i++) {
            desk.put(i, true);
        }
        desk.put(6, false).call(0, 0);
    }

    private static void promise3ARefusedPutChangesNothing() {
        desk("3 refused: the six stay as they are").types(6).row(6, 5, 4, 3, 2, 1).put(0, false).put(99, false)
            .predicate(0).row(10, 11, 12, 13, 14, 15).put(16, false).put(-1, false).call(0, 0).solve(0)
            .typeOf(10, 6).typeOf(11, 5).typeOf(12, 4).typeOf(13, 3).typeOf(14, 2).typeOf(15, 1)
            .typeOf(16, NONE);
    }

    private static void promise3AnyNumberMayCome() {
        Desk desk = desk("3 one more number comes, whichever");
        for (int n : Desk.outside(200)) {
            desk.put(n, true).predicate(NONE);
        }
        desk.rowHas(0);
    }

    private static void promise3CallsThatTakeTheRow() {
        desk("3 constructor empties it").types(1).row(0, 1).constructor(1, 0, 0).rowHas(0);
        desk("3 predicate empties it").row(0, 0, 0, 0, 0, 0).predicate(0).rowHas(0);
        desk("3 call empties it").row(0).predicate(0).row(5).call(0, 0).rowHas(0);
        desk("3 form empties it").row(1, 2, 3, 4).form(0, 0, 0).rowHas(0);
        desk("3 a refused constructor empties it").row(0, 0, 0, 0, 0, 0).constructor(1, 0, NONE).rowHas(0);
        desk("3 a refused predicate empties it").row(0, 0, 0, 0, 0, 1).predicate(NONE).rowHas(0);
        desk("3 a refused call empties it").row(1, 2, 3, 4, 5, 6).call(0, NONE).rowHas(0);
        desk("3 a refused form empties it").row(1, 2, 3, 4, 5, 6).form(0, 0, NONE).rowHas(0);
    }

    private static void promise3CallsThatLeaveTheRow() {
        desk("3 a call that doesn't take the row leaves it").row(0, 1).type(1).number(0, 0).number(80, NONE)
            .same(0, 1, 1).same(0, -1, NONE).solve(0).told(0, NONE).told(1, 2).told(2, NONE)
            .typeOf(0, 0).typeOf(80, NONE).meant(0, NONE).meant(200, NONE)
            .about(0, 0, NONE).many(0, 0).many(2, NONE).constructorOf(1, 0, NONE).find(1, 0, 0, NONE)
            .constructor(1, 7, 0).aboutAll(0, 1, 7, 0, 1);
        desk("3 the empty row stays empty").type(1).number(0, 0).same(0, 1, 1).solve(0).rowHas(0);
    }

    private static void promise4RefusedWhenThereAre100() {
        Desk desk = desk("4 NONE, refused, when there are 100").types(2);
        for (int c = 0; c < 99; c++) {
            desk.constructor(1, c, c);
        }
        desk.row(2, 1, 0, 2).constructor(2, 199, 99).about(100, 0, NONE);
        desk.row(1, 1).constructor(1, 150, NONE).rowHas(0).constructor(2, 0, NONE).constructor(2, 199, NONE);
        desk.many(1, 99).many(2, 1).find(1, 150, 2, NONE).find(2, 0, 0, NONE).constructorOf(2, 1, NONE);
        desk.aboutAll(99, 2, 199, 2, 1, 0, 2).aboutAll(98, 1, 98).aboutAll(0, 1, 0);
        for (int what = 0; what < 8; what++) {
            desk.about(100, what, NONE).about(101, what, NONE);
        }
        desk.row(1, 2, 3, 4).form(0, 199, 0).solve(0).meant(0, 99).typeOf(0, 2).typeOf(2, 1).typeOf(3, 0);
    }

    private static void promise4TheTypeIsNotThere() {
        Desk desk = desk("4 refused when the TYPE isn't there").types(2);
        for (int type : Desk.outside(3)) {
            desk.row(0).constructor(type, 1, NONE);
        }
        desk.rowHas(0).constructor(3, 1, NONE).constructor(2, 1, 0).constructor(1, 1, 1).type(3).constructor(3, 1, 2);
    }

    private static void promise4TheTypeIsInt() {
        desk("4 refused when the TYPE is INT").constructor(INT, 0, NONE).types(1).row(1).constructor(INT, 0, NONE)
            .rowHas(0).many(INT, 0).about(0, 0, NONE).constructor(1, 0, 0);
    }

    private static void promise4TheName() {
        Desk desk = desk("4 refused when name isn't 0 .. 199").types(1);
        for (int name : Desk.outside(200)) {
            desk.row(0).constructor(1, name, NONE);
        }
        desk.rowHas(0).constructor(1, 0, 0).constructor(1, 199, 1).about(0, 1, 0).about(1, 1, 199);
    }

    private static void promise4MoreThanFourFields() {
        desk("4 refused when the row has more than 4: 5").types(1).row(0, 0, 0, 0, 0).constructor(1, 0, NONE)
            .rowHas(0).about(0, 0, NONE).many(1, 0);
        desk("4 refused when the row has more than 4: 6").types(1).row(1, 1, 1, 1, 1, 1).constructor(1, 0, NONE)
            .rowHas(0).about(0, 0, NONE).many(1, 0);
        desk("4 not with 4").types(1).row(1, 0, 0, 1).constructor(1, 0, 0).aboutAll(0, 1, 0, 1, 0, 0, 1);
        desk("4 not with none").types(1).constructor(1, 0, 0).aboutAll(0, 1, 0);
    }

    private static void promise4AFieldThatIsNoType() {
        Desk desk = desk("4 refused when the row has one that is no TYPE").types(2);
        for (int field : Desk.outside(3)) {
            desk.row(field).constructor(1, 0, NONE);
        }
        desk.rowHas(0).row(2).constructor(1, 0, 0).row(INT).constructor(2, 0, 1);
        Desk places = desk("4 refused when the row has one that is no TYPE, wherever").types(2);
        for (int place = 0; place < 4; place++) {
            for (int k = 0; k < 4; k++) {
                places.row(k == place ? 3 : 2);
            }
            places.constructor(1, 0, NONE);
        }
        places.rowHas(0).type(3).row(3, 3, 3, 3).constructor(1, 0, 0);
    }

    private static void promise4OneWithNameAndCount() {
        Desk desk = desk("4 refused when there is one of that TYPE with the name and as many FIELDS").types(2);
        int[][] rows = {{}, {0}, {0, 1}, {0, 1, 2}, {0, 1, 2, 0}};
        int[][] others = {{}, {1}, {1, 0}, {2, 1, 0}, {2, 2, 2, 2}};
        for (int count = 0; count <= 4; count++) {
            desk.row(rows[count]).constructor(1, 5, count);
        }
        for (int count = 0; count <= 4; count++) {
            desk.row(others[count]).constructor(1, 5, NONE);
        }
        desk.rowHas(0).many(1, 5).aboutAll(4, 1, 5, 0, 1, 2, 0).row(0).constructor(1, 4, 5).row(0).constructor(1, 6, 6);
    }

    private static void promise4OfSeveralTypes() {
        desk("4 of several TYPES they may").types(3).row(0).constructor(1, 5, 0).row(0).constructor(2, 5, 1)
            .row(0).constructor(3, 5, 2).row(0).constructor(2, 5, NONE).find(1, 5, 1, 0).find(2, 5, 1, 1)
            .find(3, 5, 1, 2);
    }

    private static void promise4ARefusalLeavesNoTrace() {
        desk("4 a refused one has no number").types(1).constructor(1, 0, 0).row(1, 1, 1, 1).constructor(1, 200, NONE)
            .row(1, 1, 1, 1, 1).constructor(1, 1, NONE).row(2).constructor(1, 1, NONE).constructor(0, 1, NONE)
            .constructor(1, 0, NONE).about(1, 0, NONE).many(1, 1).find(1, 1, 4, NONE)
            .constructor(1, 1, 1).aboutAll(1, 1, 1).aboutAll(0, 1, 0);
    }

    private static void promise5RefusedWhenThereAre60() {
        Desk desk = desk("5 NONE, refused, when there are 60").types(1);
        for (int p = 0; p < 59; p++) {
            desk.predicate(p);
        }
        desk.call(59, NONE).row(1, 0, 1, 0, 1, 0).predicate(59);
        desk.predicate(NONE).row(0, 0).predicate(NONE).rowHas(0).call(60, NONE).row(3, 4).call(60, NONE);
        desk.row(74, 75, 76, 77, 78, 79).call(59, 0).call(58, 1).call(0, 2).solve(0);
        for (int x = 74; x < 80; x++) {
            desk.typeOf(x, x % 2 == 0 ? 1 : 0);
        }
    }

    private static void promise5AnArgumentThatIsNoType() {
        Desk desk = desk("5 refused when the row has one that is no TYPE").types(2);
        for (int argument : Desk.outside(3)) {
            desk.row(argument).predicate(NONE);
        }
        desk.rowHas(0).row(2).predicate(0).row(INT).predicate(1);
        Desk places = desk("5 refused when the row has one that is no TYPE, wherever").types(2);
        for (int place = 0; place < 6; place++) {
            for (int k = 0; k < 6; k++) {
                places.row(k == place ? 3 : 2);
            }
            places.predicate(NONE);
        }
        places.rowHas(0).type(3).row(3, 3, 3, 3, 3, 3).predicate(0);
    }

    private static void promise5NoneToSixArguments() {
        Desk desk = desk("5 the row its ARGUMENTS: none to six");
        for (int count = 0; count <= 6; count++) {
            for (int k = 0; k < count; k++) {
                desk.row(INT);
            }
            desk.predicate(count);
        }
        for (int count = 0; count <= 6; count++) {
            for (int k = 0; k < count; k++) {
                desk.row(k);
            }
            desk.call(count, count);
        }
        desk("5 two may be alike").types(1).row(1).predicate(0).row(1).predicate(1).predicate(2).predicate(3);
    }

    private static void promise15WhatFromTo() {
        Desk four = desk("15 TYPE, NAME, how many, these: four FIELDS").types(4).row(4, 3, 2, 0).constructor(4, 199, 0)
            .aboutAll(0, 4, 199, 4, 3, 2, 0);
        for (int what : Desk.outside(7)) {
            four.about(0, what, NONE);
        }
        Desk none = desk("15 TYPE, NAME, how many, these: no FIELDS").types(1).constructor(1, 0, 0).aboutAll(0, 1, 0);
        for (int what : Desk.outside(3)) {
            none.about(0, what, NONE);
        }
    }

    private static void promise15NoSuchConstructor() {
        Desk desk = desk("15 NONE when there is none such").types(1).row(1).constructor(1, 7, 0).row(1).constructor(1, 8, 1);
        for (int constructor : Desk.outside(2)) {
            for (int what = 0; what <= 3; what++) {
                desk.about(constructor, what, NONE);
            }
        }
        desk.about(-1, -1, NONE).about(Integer.MAX_VALUE, Integer.MAX_VALUE, NONE)
            .about(Integer.MIN_VALUE, Integer.MIN_VALUE, NONE);
    }

    private static void promise15FieldsOfANeighbour() {
        desk("15 these: its own alone").types(2).row(1, 1, 1, 1).constructor(1, 0, 0).row(2).constructor(1, 1, 1)
            .row(2, 2, 2, 2).constructor(1, 2, 2).constructor(1, 3, 3).aboutAll(1, 1, 1, 2)
            .about(1, 5, NONE).about(1, 6, NONE).about(1, 7, NONE).about(1, 9, NONE).aboutAll(3, 1, 3)
            .aboutAll(0, 1, 0, 1, 1, 1, 1).about(0, 8, NONE).about(0, 9, NONE);
    }

    private static void promise16NotThereAndInt() {
        Desk desk = desk("16 NONE when it is not there (INT: 0)").many(INT, 0).types(3).constructor(1, 0, 0).many(INT, 0);
        for (int type : Desk.outside(4)) {
            desk.many(type, NONE);
        }
        desk.many(3, 0).many(1, 1).type(4).many(4, 0).many(5, NONE);
    }

    private static void promise16EmptyAndFull() {
        Desk desk = desk("16 how many CONSTRUCTORS: none to 100").types(2).many(1, 0);
        for (int c = 0; c < 100; c++) {
            desk.constructor(1, c, c).many(1, c + 1);
        }
        desk.constructor(1, 100, NONE).constructor(2, 0, NONE).many(1, 100).many(2, 0).many(INT, 0);
    }

    private static void promise17TheFirstAndTheLast() {
        Desk desk = desk("17 the k-th, from 0 on, of several TYPES in turn").types(3);
        for (int c = 0; c < 100; c++) {
            desk.constructor(1 + c % 2, c, c);
        }
        for (int k = 0; k < 50; k++) {
            desk.constructorOf(1, k, 2 * k).constructorOf(2, k, 2 * k + 1);
        }
        desk.constructorOf(1, 50, NONE).constructorOf(2, 50, NONE).constructorOf(3, 0, NONE).constructorOf(0, 0, NONE);
    }

    private static void promise17NoneSuch() {
        Desk desk = desk("17 NONE when there is none").types(2).constructorOf(1, 0, NONE).constructor(1, 4, 0)
            .constructor(1, 5, 1);
        for (int k : Desk.outside(2)) {
            desk.constructorOf(1, k, NONE).constructorOf(2, k, NONE).constructorOf(INT, k, NONE);
        }
        for (int type : Desk.outside(3)) {
            desk.constructorOf(type, 0, NONE).constructorOf(type, -1, NONE);
        }
        desk.constructorOf(1, 1, 1).constructorOf(1, 0, 0);
    }

    private static void promise18NoneSuch() {
        Desk desk = desk("18 NONE when there is none").types(2).find(1, 0, 0, NONE).constructor(1, 0, 0)
            .row(0, 0, 0, 0).constructor(2, 199, 1);
        for (int type : Desk.outside(3)) {
            desk.find(type, 0, 0, NONE).find(type, 199, 4, NONE);
        }
        for (int name : Desk.outside(200)) {
            desk.find(1, name, 0, NONE).find(2, name, 4, NONE);
        }
        for (int fields : Desk.outside(5)) {
            desk.find(1, 0, fields, NONE).find(2, 199, fields, NONE);
        }
        desk.find(INT, 0, 0, NONE).find(1, 199, 4, NONE).find(2, 0, 0, NONE).find(1, 0, 4, NONE)
            .find(2, 199, 3, NONE).find(1, 0, 0, 0).find(2, 199, 4, 1);
    }

    /** NONE is no TYPE, no NAME and no count, so asking for it thrice finds nothing. */
    private static void promise18NoneForAll() {
        desk("18 NONE for TYPE, NAME and count").find(NONE, NONE, NONE, NONE).find(INT, NONE, NONE, NONE).types(1)
            .constructor(1, 0, 0).find(NONE, NONE, NONE, NONE).find(1, NONE, NONE, NONE).find(NONE, 0, 0, NONE)
            .row(0).constructor(1, 0, 1).row(9, 9).constructor(1, 1, NONE).find(NONE, NONE, NONE, NONE)
            .find(1, 1, 2, NONE).find(NONE, 1, 2, NONE);
    }

    private static void promise18EveryCount() {
        Desk desk = desk("18 with a NAME and so many FIELDS: none to four").types(2);
        for (int count = 0; count <= 4; count++) {
            for (int type = 1; type <= 2; type++) {
                for (int k = 0; k < count; k++) {
                    desk.row(0);
                }
                desk.find(type, 9, count, NONE);
                desk.constructor(type, 9, 2 * count + type - 1);
            }
        }
        for (int count = 0; count <= 4; count++) {
            desk.find(1, 9, count, 2 * count).find(2, 9, count, 2 * count + 1).find(1, 8, count, NONE);
        }
    }
}
