/** Promises 15 (held) and 16 (fresh). */
public final class HeldTest {
    public static void main(String[] args) {
        nothingIsAnotherOne();
        heldOfNoRow();
        heldWithoutAMachine();
        heldOfAnotherWhat();
        freshUnseenVerb();
        freshUnseenInTheTable();
        freshCode();
        freshField0ThenField1();
        freshFieldsByEachRule();
        freshFieldThatVaries();
        firstPlaceAlone();
        firstAndLastPlace();
        aRunOfItsOwn();
        theObjectsRunIsLeftAlone();
        asIfItHadNoExchanges();
        rowWithoutExchanges();
        withNoOtherExchanges();
        noMachineOfTheOthers();
        aMachineOfTheOthersAlone();
        freshOfEachRowInTurn();
        freshOfNoRow();
        freshOfAnotherWhat();
        Check.end();
    }

    private static void heldIs(String name, RecordedNeighbours x, int row, int place, int kind) {
        Check.due(name + ": held place", x.held(row, 0), place);
        Check.due(name + ": held kind", x.held(row, 1), kind);
    }

    private static void freshIs(String name, RecordedNeighbours x, int row, int place, int kind) {
        Check.due(name + ": place", x.fresh(row, 0), place);
        Check.due(name + ": kind", x.fresh(row, 1), kind);
    }

    /** Two rows without a quarrel that the stand-in of the other one tells otherwise. */
    private static RecordedNeighbours withTwoRows() {
        RecordedNeighbours x = new RecordedNeighbours();
        Check.rowOfCodes(x, 0, 1);
        Check.rowOfCodes(x, 1, 1);
        return x;
    }

    /** Promise 15: "NONE: nothing is another one". It never is: the stand-in is made of these rows. */
    private static void nothingIsAnotherOne() {
        RecordedNeighbours x = Check.withRows(3);
        x.exchange(0, 0, 105, 0);
        x.exchange(0, 1, 100, 10500);
        x.exchange(0, 1, 200, 7);
        x.exchange(0, 1, 200, 9);
        x.exchange(0, 2, 304, 1188);
        x.exchange(0, 2, 408, 1122);
        x.exchange(1, 0, 107, 0);
        x.exchange(1, 1, 100, 10700);
        Check.due("a machine", x.states() > 1, true);
        for (int row = 0; row < 3; row++) {
            heldIs("row " + row, x, row, -1, -1);
        }
    }

    /** Promise 15: "NONE: .. there is no such ROW". */
    private static void heldOfNoRow() {
        for (int row : Check.outside(2)) {
            heldIs("row " + row, withTwoRows(), row, -1, -1);
        }
        RecordedNeighbours x = Check.withRows(8);
        x.exchange(7, 0, 0, 0);
        heldIs("row 8 of 8", x, 8, -1, -1);
    }

    /** Promise 15: "NONE: .. or MACHINE". */
    private static void heldWithoutAMachine() {
        RecordedNeighbours x = new RecordedNeighbours();
        heldIs("no rows", x, 0, -1, -1);
        x.row();
        heldIs("no exchanges", x, 0, -1, -1);
        x.exchange(0, 0, 0, Check.answer(1, 0, 0));
        Check.rowOfCodes(x, 0, 2);
        heldIs("rows that quarrel", x, 0, -1, -1);
        heldIs("rows that quarrel", x, 1, -1, -1);
        x = new RecordedNeighbours();
        Check.rowOfCodes(x, 0, 0, 0, 0, 0, 0, 0, 0, 0, 1);
        heldIs("it would need five states", x, 0, -1, -1);
    }

    /** Promise 15: "NONE: .. for another what." */
    private static void heldOfAnotherWhat() {
        RecordedNeighbours x = withTwoRows();
        for (int what : Check.outside(2)) {
            Check.due("held what " + what, x.held(0, what), -1);
        }
    }

    /** Terms 4: "the first place at which it is UNSEEN". Promise 15: "1: 0 UNSEEN". */
    private static void freshUnseenVerb() {
        RecordedNeighbours x = new RecordedNeighbours();
        Check.rowOfCodes(x, 0, 0, 0, 0, 1, 0);
        Check.rowOfCodes(x, 0, 0);
        freshIs("unseen verb", x, 0, 2, 0);
        freshIs("all seen", x, 1, -1, -1);
        Check.rowOfCodes(x, 2, 3);
        freshIs("unseen at place 0", x, 2, 0, 0);
        x = new RecordedNeighbours();
        Check.rowOfCodes(x, 0, 1, 0, 2);
        Check.rowOfCodes(x, 1, 0);
        Check.rowOfCodes(x, 0, 1, 1, 0);
        freshIs("a verb that another state has", x, 2, 1, 0);
    }

    private static void freshUnseenInTheTable() {
        RecordedNeighbours x = Check.withRows(2);
        x.exchange(0, 0, Check.ask(1, 2), Check.answer(0, 30, 0));
        x.exchange(0, 0, Check.ask(2, 2), Check.answer(0, 10, 0));
        x.exchange(0, 0, Check.ask(1, 3), Check.answer(0, 90, 0));
        x.exchange(1, 0, Check.ask(2, 2), Check.answer(0, 10, 0));
        x.exchange(1, 0, Check.ask(9, 9), Check.answer(3, 10, 0));
        freshIs("not in the others' table; ahead of the code", x, 1, 1, 0);
        heldIs("in the table of all", x, 1, -1, -1);
    }

    /** Terms 4: "the CODE is another one". Promise 15: "1 the CODE". */
    private static void freshCode() {
        RecordedNeighbours x = new RecordedNeighbours();
        Check.rowOfCodes(x, 0, 1, 0, 1);
        Check.rowOfCodes(x, 0, 1, 0, 1, 0, 2);
        freshIs("another code", x, 1, 2, 1);
        x = Check.withRows(2);
        x.exchange(0, 0, 0, Check.answer(1, 7, 7));
        x.exchange(1, 0, 0, Check.answer(2, 8, 8));
        freshIs("the code comes ahead of fields", x, 1, 0, 1);
        freshIs("the other row", x, 0, 0, 1);
    }

    /** Terms 4: "or FIELD 0, then FIELD 1, is". Promise 15: "2, 3 FIELDS". */
    private static void freshField0ThenField1() {
        RecordedNeighbours x = Check.withRows(2);
        x.exchange(0, 0, Check.ask(1, 2), Check.answer(0, 1, 2));
        x.exchange(0, 0, Check.ask(5, 9), Check.answer(0, 5, 9));
        x.exchange(1, 0, Check.ask(8, 3), Check.answer(0, 8, 3));
        freshIs("as told", x, 1, -1, -1);
        x.exchange(1, 0, Check.ask(8, 3), Check.answer(0, 7, 4));
        freshIs("both: field 0", x, 1, 1, 2);
        x.cut(1, 1);
        x.exchange(1, 0, Check.ask(8, 3), Check.answer(0, 7, 3));
        freshIs("field 0 alone", x, 1, 1, 2);
        x.cut(1, 1);
        x.exchange(1, 0, Check.ask(8, 3), Check.answer(0, 8, 4));
        freshIs("field 1 alone", x, 1, 1, 3);
    }

    /** Field 0 of the others' rule; the row tells it right, then wrong. */
    private static void freshFieldsByEachRule() {
        int[][] others = {{5, 5}, {1, 9}, {20, 12}, {20, 11}, {99, 99}};
        int[][] fieldsOfRules = {
            {7, 7, 7, 7, 7}, {4, 0, 19, 19, 98}, {5, 9, 12, 11, 99}, {30, 31, 32, 33, 34}, {0, 0, 0, 13, 0}, {8, 1, 9, 3, 8},
        };
        int[][] right = {{7, 7}, {19, 19}, {12, 12}, {30, 31}, {0, 13}, {9, 9}};
        for (int rule = 0; rule < 6; rule++) {
            RecordedNeighbours x = Check.withRows(2);
            for (int i = 0; i < others.length; i++) {
                x.exchange(0, 0, Check.ask(others[i][0], others[i][1]), Check.answer(0, fieldsOfRules[rule][i], 0));
            }
            Check.due("rule " + rule, x.rule(0, 0), rule);
            x.exchange(1, 0, Check.ask(20, 12), Check.answer(0, right[rule][0], 0));
            x.exchange(1, 0, Check.ask(20, 12), Check.answer(0, right[rule][1], 0));
            freshIs("as rule " + rule + " tells", x, 1, -1, -1);
            x.cut(1, 1);
            x.exchange(1, 0, Check.ask(20, 12), Check.answer(0, right[rule][1] + 1, 0));
            freshIs("not as rule " + rule + " tells", x, 1, 1, 2);
        }
    }

    /** Terms 4: "(one that VARIES is never)". */
    private static void freshFieldThatVaries() {
        RecordedNeighbours x = Check.withRows(2);
        x.exchange(0, 0, 0, Check.answer(0, 30, 4));
        x.exchange(0, 0, 0, Check.answer(0, 10, 4));
        x.exchange(1, 0, 0, Check.answer(0, 55, 4));
        freshIs("field 0 varies", x, 1, -1, -1);
        x.exchange(1, 0, 0, Check.answer(0, 55, 5));
        freshIs("field 0 varies, field 1 is looked at", x, 1, 1, 3);
        x = Check.withRows(2);
        x.exchange(0, 0, 0, Check.answer(0, 4, 30));
        x.exchange(0, 0, 0, Check.answer(0, 4, 10));
        x.exchange(1, 0, 0, Check.answer(0, 4, 99));
        freshIs("field 1 varies", x, 1, -1, -1);
    }

    private static void firstPlaceAlone() {
        RecordedNeighbours x = Check.withRows(2);
        x.exchange(0, 0, 0, Check.answer(1, 5, 5));
        x.exchange(1, 0, 0, Check.answer(1, 5, 5));
        x.exchange(1, 0, 0, Check.answer(1, 5, 6));
        x.exchange(1, 0, 0, Check.answer(2, 6, 5));
        x.exchange(1, 1, 0, Check.answer(1, 5, 5));
        freshIs("a field, a code, an unseen one", x, 1, 1, 3);
    }

    private static void firstAndLastPlace() {
        RecordedNeighbours x = Check.withRows(8);
        x.exchange(0, 0, 0, Check.answer(1, 0, 0));
        for (int place = 0; place < 12; place++) {
            x.exchange(7, 0, 0, Check.answer(1, 0, place == 11 ? 99 : 0));
        }
        freshIs("place 11 of row 7", x, 7, 11, 3);
        x.cut(7, 11);
        freshIs("cut ahead of it", x, 7, -1, -1);
        x.cut(7, 0);
        x.exchange(7, 0, 0, Check.answer(1, 1, 0));
        freshIs("place 0", x, 7, 0, 2);
    }

    /** Terms 4: "its ASKS from a RUN of its own". */
    private static void aRunOfItsOwn() {
        RecordedNeighbours x = Check.withRows(2);
        x.exchange(0, 0, Check.ask(1, 20), Check.answer(1, 0, 5));
        x.exchange(0, 0, Check.ask(1, 30), Check.answer(2, 20, 6));
        x.exchange(0, 0, Check.ask(1, 60), Check.answer(1, 30, 7));
        x.exchange(1, 0, Check.ask(2, 40), Check.answer(1, 0, 5));
        x.exchange(1, 0, Check.ask(2, 50), Check.answer(2, 40, 6));
        x.begin();
        x.say(0, Check.ask(2, 99));
        for (int time = 0; time < 2; time++) {
            freshIs("from state 0, with nothing kept or counted", x, 1, -1, -1);
            heldIs("from state 0, with nothing kept or counted", x, 1, -1, -1);
        }
    }

    private static void theObjectsRunIsLeftAlone() {
        RecordedNeighbours x = new RecordedNeighbours();
        Check.rowOfCodes(x, 0, 1, 0, 2);
        Check.rowOfCodes(x, 0, 1);
        x.begin();
        x.say(0, 0);
        x.fresh(0, 0);
        x.held(0, 0);
        Check.due("state", x.ran(0), 1);
        Check.due("answered", x.ran(1), 1);
        Check.due("unseen", x.ran(2), 0);
        Check.due("the machine of all", x.states(), 2);
        Check.due("say", x.say(0, 0), 2);
        x = new RecordedNeighbours();
        Check.rowOfCodes(x, 0, 1);
        x.held(0, 0);
        x.fresh(0, 0);
        Check.due("they begin no run", x.ran(0), -1);
    }

    /** Promise 16: "by THE MACHINE and RULES of all other ROWS alone (as if this one had no EXCHANGES)". */
    private static void asIfItHadNoExchanges() {
        RecordedNeighbours x = Check.withRows(3);
        x.exchange(0, 0, Check.ask(1, 1), Check.answer(0, 9, 0));
        x.exchange(1, 0, Check.ask(2, 7), Check.answer(0, 7, 0));
        x.exchange(2, 0, Check.ask(3, 7), Check.answer(0, 7, 0));
        Check.due("a table of all", x.rule(0, 0), 5);
        freshIs("constant 7 of the others", x, 0, 0, 2);
        freshIs("the others' table has not its ask", x, 1, 0, 0);
        Check.due("rules of all, as they were", x.rule(0, 0), 5);
        x = new RecordedNeighbours();
        Check.rowOfCodes(x, 0, 1, 0, 2, 0, 1, 0, 2);
        Check.rowOfCodes(x, 0, 1);
        freshIs("the others' machine has one state", x, 0, 1, 1);
    }

    private static void rowWithoutExchanges() {
        RecordedNeighbours x = withTwoRows();
        x.row();
        freshIs("nothing is another one in an empty row", x, 2, -1, -1);
        heldIs("nothing is another one in an empty row", x, 2, -1, -1);
    }

    /** Promise 16: "NONE as held(); with no other EXCHANGES, too." */
    private static void withNoOtherExchanges() {
        RecordedNeighbours x = new RecordedNeighbours();
        Check.rowOfCodes(x, 0, 1);
        freshIs("no other rows", x, 0, -1, -1);
        x.row();
        freshIs("no other exchanges", x, 0, -1, -1);
        x.exchange(1, 1, 0, 0);
        freshIs("another exchange", x, 0, 0, 0);
        x.cut(1, 0);
        freshIs("it is cut", x, 0, -1, -1);
    }

    private static void noMachineOfTheOthers() {
        RecordedNeighbours x = new RecordedNeighbours();
        Check.rowOfCodes(x, 2, 1);
        Check.rowOfCodes(x, 1, 0);
        Check.rowOfCodes(x, 1, 1);
        freshIs("the others quarrel", x, 0, -1, -1);
        x = new RecordedNeighbours();
        Check.rowOfCodes(x, 1, 1);
        Check.rowOfCodes(x, 0, 0, 0, 0, 0, 0, 0, 0, 0, 1);
        freshIs("the others would need five states", x, 0, -1, -1);
    }

    private static void aMachineOfTheOthersAlone() {
        RecordedNeighbours x = new RecordedNeighbours();
        Check.rowOfCodes(x, 0, 0);
        Check.rowOfCodes(x, 0, 0, 0, 0, 0, 0, 0, 0, 0, 1);
        Check.due("no machine of all", x.states(), -1);
        heldIs("no machine of all", x, 1, -1, -1);
        freshIs("one of the others", x, 1, 4, 1);
        freshIs("none of the others", x, 0, -1, -1);
        Check.due("still no machine of all", x.states(), -1);
    }

    private static void freshOfEachRowInTurn() {
        RecordedNeighbours x = new RecordedNeighbours();
        Check.rowOfCodes(x, 0, 1, 0, 1);
        Check.rowOfCodes(x, 0, 1, 1, 1);
        Check.rowOfCodes(x, 0, 1, 0, 1, 0, 2);
        int[] places = {-1, 1, 2};
        int[] kinds = {-1, 0, 1};
        for (int turn = 0; turn < 6; turn++) {
            int row = turn * 2 % 3;
            freshIs("row " + row, x, row, places[row], kinds[row]);
        }
        x.exchange(0, 1, 0, Check.answer(1, 0, 0));
        freshIs("another state has verb 1 now", x, 0, 2, 0);
        x.cut(2, 2);
        freshIs("one state has it", x, 0, -1, -1);
        freshIs("one state has it", x, 1, -1, -1);
    }

    /** Promise 16: "NONE as held()": no such ROW. */
    private static void freshOfNoRow() {
        for (int row : Check.outside(2)) {
            freshIs("row " + row, withTwoRows(), row, -1, -1);
        }
        RecordedNeighbours x = Check.withRows(8);
        x.exchange(7, 0, 0, 0);
        freshIs("row 8 of 8", x, 8, -1, -1);
        freshIs("no rows", new RecordedNeighbours(), 0, -1, -1);
    }

    /** Promise 16: "NONE as held()": for another what. */
    private static void freshOfAnotherWhat() {
        RecordedNeighbours x = withTwoRows();
        for (int what : Check.outside(2)) {
            Check.due("fresh what " + what, x.fresh(0, what), -1);
        }
        freshIs("there is one", x, 0, 0, 0);
    }
}
