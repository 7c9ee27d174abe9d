/** Promises 11 (begin), 12 (say), 13 (field), 14 (ran). */
public final class RunTest {
    public static void main(String[] args) {
        noRunYet();
        beginWithoutExchanges();
        beginWithoutAMachine();
        noRunThen();
        begunAnew();
        statesAndCodes();
        stateHasNotThatVerb();
        askIsNotInTheTable();
        tableOfOneField();
        nothingChangesByAnUnseenAsk();
        constantAndEchoes();
        countByAnsweredAsks();
        keptByAnsweredAsks();
        keptIsZeroWhereThereIsNone();
        countAndKeptOfAnyVerb();
        fieldThatVaries();
        farthestFields();
        noFieldYet();
        runStaysAsItBegan();
        sayOfOtherNumbers();
        noSuchField();
        ranOfAnotherWhat();
        Check.end();
    }

    private static void ranIs(String name, RecordedNeighbours x, int state, int answered, int unseen) {
        Check.due(name + ": state", x.ran(0), state);
        Check.due(name + ": answered", x.ran(1), answered);
        Check.due(name + ": unseen", x.ran(2), unseen);
    }

    private static void fieldsAre(String name, RecordedNeighbours x, int field0, int field1) {
        Check.due(name + ": field 0", x.field(0), field0);
        Check.due(name + ": field 1", x.field(1), field1);
    }

    private static void thereIsNoRun(String name, RecordedNeighbours x) {
        Check.due(name + ": say", x.say(0, 0), -1);
        Check.due(name + ": say of other numbers", x.say(3, -1), -1);
        ranIs(name, x, -1, -1, -1);
        fieldsAre(name, x, -1000, -1000);
    }

    /** Promise 12: "NONE: there is no RUN". Promise 13: "-1000: there is none". Promise 14: "NONE: there is no RUN". */
    private static void noRunYet() {
        RecordedNeighbours x = new RecordedNeighbours();
        thereIsNoRun("new", x);
        Check.rowOfCodes(x, 0, 0);
        thereIsNoRun("a machine, but no run", x);
        Check.due("begin", x.begin(), true);
        ranIs("begun", x, 0, 0, 0);
    }

    /** Promise 11: "false: there is no MACHINE (or no EXCHANGES)". */
    private static void beginWithoutExchanges() {
        Check.due("no rows", new RecordedNeighbours().begin(), false);
        Check.due("empty rows", Check.withRows(8).begin(), false);
        RecordedNeighbours x = new RecordedNeighbours();
        Check.rowOfCodes(x, 0, 0);
        x.cut(0, 0);
        Check.due("cut rows", x.begin(), false);
        thereIsNoRun("cut rows", x);
    }

    private static void beginWithoutAMachine() {
        RecordedNeighbours x = new RecordedNeighbours();
        Check.rowOfCodes(x, 0, 0, 0, 0, 0, 0, 0, 0, 0, 1);
        Check.due("it would need five states", x.begin(), false);
        thereIsNoRun("five states", x);
        x.cut(0, 4);
        thereIsNoRun("a machine alone is no run", x);
        Check.due("a machine", x.begin(), true);
        ranIs("begun", x, 0, 0, 0);
    }

    /** Promise 11: "there is no RUN then." */
    private static void noRunThen() {
        RecordedNeighbours x = new RecordedNeighbours();
        Check.rowOfCodes(x, 0, 1);
        x.begin();
        x.say(0, 0);
        Check.rowOfCodes(x, 0, 2);
        Check.due("the run goes on", x.say(0, 0), 1);
        Check.due("rows that quarrel", x.begin(), false);
        thereIsNoRun("the run has gone", x);
        x.cut(1, 0);
        thereIsNoRun("it does not come back", x);
        Check.due("begin", x.begin(), true);
        x.cut(0, 0);
        Check.due("no exchanges", x.begin(), false);
        thereIsNoRun("this one has gone too", x);
    }

    /** Terms 4: "begun anew as a ROW is". */
    private static void begunAnew() {
        RecordedNeighbours x = Check.withRows(1);
        x.exchange(0, 0, Check.ask(1, 20), Check.answer(1, 0, 5));
        x.exchange(0, 0, Check.ask(1, 30), Check.answer(2, 20, 6));
        x.exchange(0, 0, Check.ask(1, 60), Check.answer(1, 30, 7));
        for (int time = 0; time < 2; time++) {
            Check.due("begin", x.begin(), true);
            ranIs("anew", x, 0, 0, 0);
            fieldsAre("no answer yet", x, -1000, -1000);
            Check.due("first", x.say(0, Check.ask(1, 77)), 1);
            fieldsAre("nothing is kept, nothing is counted", x, 0, 5);
            Check.due("unseen", x.say(2, 0), -2);
            ranIs("on its way", x, 1, 1, 1);
        }
    }

    /** Promise 12: "An ASK: the CODE." Promise 14: "0: STATE, 1: ASKS that were ANSWERED, 2: UNSEEN ones." */
    private static void statesAndCodes() {
        RecordedNeighbours x = new RecordedNeighbours();
        Check.rowOfCodes(x, 0, 1, 0, 2, 0, 3, 0, 1);
        x.begin();
        int[] codes = {1, 2, 3, 1, 2, 3, 1};
        for (int i = 0; i < codes.length; i++) {
            ranIs("step " + i, x, i % 3, i, 0);
            Check.due("code " + i, x.say(0, 0), codes[i]);
        }
        ranIs("the end", x, 1, 7, 0);
    }

    /** Terms 4: "ANSWERED if THE MACHINE's STATE has that VERB". Promise 12: "-2: it is UNSEEN." */
    private static void stateHasNotThatVerb() {
        RecordedNeighbours x = new RecordedNeighbours();
        Check.rowOfCodes(x, 0, 1, 1, 0, 0, 2);
        Check.due("two states", x.states(), 2);
        Check.due("verb 0 leads on", x.leads(0, 0, 0), 0);
        Check.due("verb 1 leads on", x.leads(0, 1, 0), 1);
        Check.due("state 1 has not verb 1", x.leads(1, 1, 1), -1);
        x.begin();
        Check.due("verb 2 is in no state", x.say(2, 0), -2);
        Check.due("verb 1 in state 0", x.say(1, 0), 0);
        Check.due("verb 1 in state 1", x.say(1, 0), -2);
        Check.due("verb 2 in state 1", x.say(2, 9999), -2);
        ranIs("three unseen ones", x, 1, 1, 3);
        Check.due("verb 0 in state 1", x.say(0, 0), 2);
        Check.due("verb 1 in state 0 again", x.say(1, 0), 0);
    }

    /** Terms 4: "each FIELD whose RULE is TABLE has that ASK in some EXCHANGE". */
    private static void askIsNotInTheTable() {
        RecordedNeighbours x = Check.withRows(2);
        x.exchange(0, 0, Check.ask(1, 2), Check.answer(0, 30, 8));
        x.exchange(0, 0, Check.ask(2, 2), Check.answer(0, 10, 9));
        x.exchange(1, 0, Check.ask(1, 3), Check.answer(0, 90, 4));
        x.exchange(1, 1, Check.ask(7, 7), Check.answer(0, 0, 0));
        Check.due("table", x.rule(0, 0), 5);
        Check.due("table", x.rule(0, 1), 5);
        x.begin();
        Check.due("the first", x.say(0, Check.ask(1, 2)), 0);
        fieldsAre("the first", x, 30, 8);
        Check.due("the last, of another row", x.say(0, Check.ask(1, 3)), 0);
        fieldsAre("the last", x, 90, 4);
        Check.due("a and b apart", x.say(0, Check.ask(2, 3)), -2);
        Check.due("a and b the other way round", x.say(0, Check.ask(2, 1)), -2);
        Check.due("another verb's ask", x.say(0, Check.ask(7, 7)), -2);
        Check.due("a verb without a table", x.say(1, Check.ask(50, 50)), 0);
        ranIs("table", x, 0, 3, 3);
    }

    private static void tableOfOneField() {
        for (int field = 0; field < 2; field++) {
            RecordedNeighbours x = Check.withRows(1);
            int one = field == 0 ? 100 : 1;
            x.exchange(0, 2, Check.ask(1, 2), 30 * one);
            x.exchange(0, 2, Check.ask(2, 2), 10 * one);
            x.exchange(0, 2, Check.ask(1, 3), 90 * one);
            Check.due("table", x.rule(2, field), 5);
            Check.due("constant", x.rule(2, 1 - field), 0);
            x.begin();
            Check.due("not in it", x.say(2, Check.ask(3, 3)), -2);
            Check.due("in it", x.say(2, Check.ask(2, 2)), 0);
            Check.due("by the table", x.field(field), 10);
            Check.due("the other field", x.field(1 - field), 0);
        }
    }

    /** Terms 4: "else it is UNSEEN, and nothing changes." */
    private static void nothingChangesByAnUnseenAsk() {
        RecordedNeighbours x = Check.withRows(1);
        x.exchange(0, 0, Check.ask(1, 20), Check.answer(1, 0, 5));
        x.exchange(0, 0, Check.ask(1, 30), Check.answer(2, 20, 6));
        x.exchange(0, 0, Check.ask(1, 60), Check.answer(1, 30, 7));
        x.exchange(0, 1, Check.ask(1, 60), Check.answer(1, 30, 7));
        x.exchange(0, 1, Check.ask(2, 60), Check.answer(1, 10, 7));
        x.exchange(0, 1, Check.ask(2, 61), Check.answer(1, 50, 7));
        x.begin();
        Check.due("unseen at once", x.say(2, Check.ask(1, 44)), -2);
        ranIs("at once", x, 0, 0, 1);
        fieldsAre("still no answer", x, -1000, -1000);
        x.say(0, Check.ask(1, 70));
        fieldsAre("it was not kept", x, 0, 5);
        int state = x.ran(0);
        Check.due("the state has not the verb", x.say(2, Check.ask(1, 71)), -2);
        ranIs("the state stays", x, state, 1, 2);
        fieldsAre("the latest answer stays", x, 0, 5);
        x.say(0, Check.ask(1, 0));
        fieldsAre("the count and the kept one stay", x, 70, 6);
    }

    private static void constantAndEchoes() {
        RecordedNeighbours x = Check.withRows(1);
        x.exchange(0, 0, Check.ask(50, 7), Check.answer(0, 40, 9));
        x.exchange(0, 0, Check.ask(60, 5), Check.answer(0, 50, 7));
        x.exchange(0, 0, Check.ask(60, 4), Check.answer(0, 50, 6));
        x.exchange(0, 1, Check.ask(60, 4), Check.answer(3, 42, 0));
        x.begin();
        Check.due("echoes", x.say(0, Check.ask(33, 66)), 0);
        fieldsAre("echoes of a and of b", x, 23, 68);
        Check.due("constants", x.say(1, Check.ask(33, 66)), 3);
        fieldsAre("constants", x, 42, 0);
    }

    /** Terms 4: "(KEPT and COUNT by the ASKS that were ANSWERED in this RUN". */
    private static void countByAnsweredAsks() {
        RecordedNeighbours x = Check.withRows(1);
        for (int i = 0; i < 3; i++) {
            x.exchange(0, 0, 0, Check.answer(0, 8 + i, 90 + i));
        }
        x.begin();
        for (int i = 0; i < 20; i++) {
            Check.due("unseen", x.say(1, 0), -2);
            x.say(0, 0);
            fieldsAre("count " + i, x, 8 + i, 90 + i);
        }
    }

    private static void keptByAnsweredAsks() {
        RecordedNeighbours x = Check.withRows(1);
        x.exchange(0, 0, Check.ask(1, 20), Check.answer(0, 0, 0));
        x.exchange(0, 0, Check.ask(1, 30), Check.answer(0, 23, 0));
        x.exchange(0, 0, Check.ask(1, 60), Check.answer(0, 33, 0));
        x.begin();
        x.say(0, Check.ask(1, 8));
        fieldsAre("rows are not of the run", x, 0, 0);
        x.say(1, Check.ask(1, 77));
        x.say(0, Check.ask(2, 9));
        x.say(0, Check.ask(1, 0));
        fieldsAre("neither the unseen one nor that of another a", x, 11, 0);
        x.say(0, Check.ask(1, 99));
        fieldsAre("the latest, whose b is 0", x, 3, 0);
    }

    private static void keptIsZeroWhereThereIsNone() {
        RecordedNeighbours x = Check.withRows(1);
        x.exchange(0, 1, Check.ask(1, 20), 0);
        x.exchange(0, 0, Check.ask(1, 30), Check.answer(0, 23, 18));
        x.exchange(0, 0, Check.ask(1, 60), Check.answer(0, 33, 28));
        x.exchange(0, 0, Check.ask(1, 10), Check.answer(0, 63, 58));
        Check.due("c above 0", x.by(0, 0), 3);
        Check.due("c below 0", x.by(0, 1), -2);
        x.begin();
        for (int a = 0; a < 100; a += 33) {
            x.say(0, Check.ask(a, 50));
            fieldsAre("none of a " + a, x, 0, 0);
        }
        x.say(0, Check.ask(99, 1));
        fieldsAre("one of a 99", x, 53, 48);
    }

    private static void countAndKeptOfAnyVerb() {
        RecordedNeighbours x = Check.withRows(1);
        x.exchange(0, 1, Check.ask(1, 20), 0);
        x.exchange(0, 0, Check.ask(1, 30), Check.answer(0, 20, 4));
        x.exchange(0, 1, Check.ask(1, 60), 0);
        x.exchange(0, 0, Check.ask(1, 10), Check.answer(0, 60, 5));
        x.begin();
        x.say(1, Check.ask(5, 70));
        x.say(1, Check.ask(5, 71));
        x.say(0, Check.ask(5, 72));
        fieldsAre("kept of any verb, counted of this one", x, 71, 4);
        x.say(1, Check.ask(5, 0));
        x.say(0, Check.ask(5, 72));
        fieldsAre("once more", x, 0, 5);
    }

    /** Terms 4: "a FIELD that VARIES: none". Promise 13: "-1000: .. it VARIES". */
    private static void fieldThatVaries() {
        for (int field = 0; field < 2; field++) {
            RecordedNeighbours x = Check.withRows(1);
            int one = field == 0 ? 100 : 1;
            x.exchange(0, 0, 0, 30 * one);
            x.exchange(0, 0, 0, 10 * one);
            x.exchange(0, 1, 0, 7 * one);
            x.begin();
            Check.due("answered all the same", x.say(0, 9999), 0);
            Check.due("varies", x.field(field), -1000);
            Check.due("the other field", x.field(1 - field), 0);
            x.say(1, 0);
            Check.due("of another verb", x.field(field), 7);
            x.say(0, 0);
            Check.due("the latest answer has none", x.field(field), -1000);
        }
    }

    /** Terms 4: "A FIELD may be told below 0 or above 99." */
    private static void farthestFields() {
        RecordedNeighbours x = Check.withRows(1);
        x.exchange(0, 0, Check.ask(98, 0), Check.answer(0, 0, 98));
        x.exchange(0, 0, Check.ask(99, 1), Check.answer(0, 1, 99));
        x.exchange(0, 0, Check.ask(98, 1), Check.answer(0, 0, 99));
        x.exchange(0, 1, Check.ask(5, 0), Check.answer(0, 0, 98));
        x.exchange(0, 1, Check.ask(5, 0), Check.answer(0, 99, 99));
        x.begin();
        x.say(0, Check.ask(0, 99));
        fieldsAre("echoes", x, -98, 197);
        x.say(1, Check.ask(5, 99));
        fieldsAre("kept of none, the first count", x, 0, 98);
        x.say(1, Check.ask(5, 0));
        fieldsAre("kept 99", x, 198, 99);
        x.say(1, Check.ask(5, 0));
        fieldsAre("the third count", x, 99, 100);
        x = Check.withRows(1);
        x.exchange(0, 1, Check.ask(1, 99), 0);
        x.exchange(0, 0, Check.ask(1, 98), Check.answer(0, 1, 0));
        x.exchange(0, 0, Check.ask(1, 50), Check.answer(0, 0, 0));
        x.begin();
        x.say(0, Check.ask(7, 0));
        x.say(0, Check.ask(7, 1));
        fieldsAre("kept 0", x, -98, 0);
        x.say(0, Check.ask(7, 1));
        fieldsAre("kept 1", x, -97, 0);
    }

    /** Promise 13: "-1000: there is none". */
    private static void noFieldYet() {
        RecordedNeighbours x = new RecordedNeighbours();
        Check.rowOfCodes(x, 0, 0);
        x.begin();
        fieldsAre("no ask yet", x, -1000, -1000);
        x.say(1, 0);
        fieldsAre("no answer yet", x, -1000, -1000);
        x.say(0, 0);
        fieldsAre("an answer of zeros", x, 0, 0);
        x.begin();
        fieldsAre("begun anew", x, -1000, -1000);
    }

    /** Terms 4: "by THE MACHINE and RULES as they are when it begins". */
    private static void runStaysAsItBegan() {
        RecordedNeighbours x = Check.withRows(1);
        x.exchange(0, 0, Check.ask(1, 2), Check.answer(1, 30, 5));
        x.exchange(0, 2, Check.ask(1, 2), Check.answer(1, 30, 5));
        x.exchange(0, 2, Check.ask(7, 9), Check.answer(1, 10, 5));
        x.begin();
        x.exchange(0, 0, Check.ask(1, 2), Check.answer(2, 31, 6));
        x.exchange(0, 1, Check.ask(1, 2), Check.answer(2, 31, 6));
        x.exchange(0, 2, Check.ask(3, 3), Check.answer(1, 31, 6));
        Check.due("rules now", x.rule(0, 0), 3);
        for (int i = 0; i < 3; i++) {
            Check.due("machine as it began", x.say(0, 0), 1);
            fieldsAre("rules as they began", x, 30, 5);
        }
        Check.due("a later verb is unseen", x.say(1, 0), -2);
        Check.due("a later ask is not in the table", x.say(2, Check.ask(3, 3)), -2);
        x.cut(0, 0);
        Check.due("without exchanges", x.say(0, 0), 1);
        Check.due("its table stays", x.say(2, Check.ask(7, 9)), 1);
        fieldsAre("by its table", x, 10, 5);
        ranIs("as it began", x, 0, 5, 2);
    }

    /** Promise 12: "NONE: .. other numbers." */
    private static void sayOfOtherNumbers() {
        RecordedNeighbours x = Check.withRows(1);
        x.exchange(0, 0, 0, Check.answer(1, 5, 6));
        x.begin();
        x.say(0, 0);
        for (int verb : Check.outside(3)) {
            Check.due("say verb " + verb, x.say(verb, 0), -1);
        }
        for (int ask : Check.outside(10000)) {
            Check.due("say ask " + ask, x.say(0, ask), -1);
            Check.due("say ask " + ask + " of an unseen verb", x.say(2, ask), -1);
        }
        ranIs("other numbers are no asks", x, 0, 1, 0);
        fieldsAre("the latest answer stays", x, 5, 6);
        Check.due("least ask", x.say(0, 0), 1);
        Check.due("greatest ask", x.say(0, 9999), 1);
        Check.due("greatest verb", x.say(2, 9999), -2);
    }

    /** Promise 13: "-1000: .. there is no such FIELD." */
    private static void noSuchField() {
        RecordedNeighbours x = new RecordedNeighbours();
        Check.rowOfCodes(x, 0, 1);
        x.begin();
        x.say(0, 0);
        for (int field : Check.outside(2)) {
            Check.due("field " + field, x.field(field), -1000);
        }
    }

    /** Promise 14: "NONE: .. for another what." */
    private static void ranOfAnotherWhat() {
        RecordedNeighbours x = new RecordedNeighbours();
        Check.rowOfCodes(x, 0, 1);
        x.begin();
        x.say(0, 0);
        for (int what : Check.outside(3)) {
            Check.due("ran " + what, x.ran(what), -1);
        }
    }
}
