/** Promises 11 (begin), 12 (say), 13 (field), 14 (ran). */
public final class RunTest {
    public static void main(String[] args) {
        noRun();
        beginEndsARun();
        statesAndCodes();
        unseenAsks();
        fieldsByRules();
        keptAndCountByAnsweredAsks();
        tableOfTwoFields();
        runStaysAsItBegan();
        wrongInputs();
        Check.end();
    }

    private static void ranIs(String name, RecordedNeighbours x, int state, int answered, int unseen) {
        Check.due(name + ": state", x.ran(0), state);
        Check.due(name + ": answered", x.ran(1), answered);
        Check.due(name + ": unseen", x.ran(2), unseen);
    }

    private static void fieldsAre(String name, RecordedNeighbours x, int field0, int field1) {
        Check.due(name + ": field 0", x.field(0), field0);
        Check.due(name + ": field 1", x.field(1), field1);
    }

    private static void noRun() {
        RecordedNeighbours x = new RecordedNeighbours();
        Check.due("begin without exchanges", x.begin(), false);
        x.row();
        x.exchange(0, 0, 0, 0);
        Check.due("say ahead of begin", x.say(0, 0), -1);
        ranIs("no run", x, -1, -1, -1);
        fieldsAre("no run", x, -1000, -1000);
        Check.due("begin", x.begin(), true);
        ranIs("begun", x, 0, 0, 0);
        fieldsAre("begun", x, -1000, -1000);
    }

    private static void beginEndsARun() {
        RecordedNeighbours x = new RecordedNeighbours();
        Check.rowOfCodes(x, 0, 1);
        x.begin();
        x.say(0, 0);
        Check.rowOfCodes(x, 0, 2);
        Check.due("the run goes on", x.say(0, 0), 1);
        Check.due("no machine agrees", x.begin(), false);
        Check.due("no say", x.say(0, 0), -1);
        ranIs("no run", x, -1, -1, -1);
        fieldsAre("no run", x, -1000, -1000);
        x.cut(1, 0);
        ranIs("still no run", x, -1, -1, -1);
        Check.due("a machine again", x.begin(), true);
        ranIs("anew", x, 0, 0, 0);
    }

    private static void statesAndCodes() {
        RecordedNeighbours x = new RecordedNeighbours();
        Check.rowOfCodes(x, 0, 1, 0, 2, 0, 3, 0, 1);
        x.begin();
        int[] codes = {1, 2, 3, 1, 2, 3, 1};
        for (int i = 0; i < codes.length; i++) {
            ranIs("step " + i, x, i % 3, i, 0);
            Check.due("code " + i, x.say(0, 0), codes[i]);
        }
        Check.due("begin anew", x.begin(), true);
        ranIs("anew", x, 0, 0, 0);
        fieldsAre("anew", x, -1000, -1000);
    }

    private static void unseenAsks() {
        RecordedNeighbours x = new RecordedNeighbours();
        Check.rowOfCodes(x, 0, 0, 1, 1, 0, 2);
        x.begin();
        Check.due("seen", x.say(0, 0), 0);
        int state = x.ran(0);
        Check.due("unseen verb", x.say(2, 0), -2);
        Check.due("unseen verb again", x.say(2, 9999), -2);
        ranIs("nothing changes", x, state, 1, 2);
        fieldsAre("the latest answer stays", x, 0, 0);
    }

    private static void fieldsByRules() {
        RecordedNeighbours x = new RecordedNeighbours();
        x.row();
        x.exchange(0, 0, Check.ask(50, 99), Check.answer(0, 40, 99));
        x.exchange(0, 0, Check.ask(60, 50), Check.answer(0, 50, 50));
        x.exchange(0, 0, Check.ask(60, 40), Check.answer(0, 50, 41));
        x.exchange(0, 1, Check.ask(60, 7), Check.answer(1, 8, 41));
        x.exchange(0, 1, Check.ask(60, 7), Check.answer(1, 9, 41));
        x.exchange(0, 2, Check.ask(1, 0), Check.answer(2, 99, 1));
        x.exchange(0, 2, Check.ask(2, 1), Check.answer(2, 99, 2));
        x.exchange(0, 2, Check.ask(1, 9), Check.answer(2, 99, 10));
        Check.due("one state", x.states(), 1);
        x.begin();
        Check.due("echo below 0", x.say(0, Check.ask(3, 99)), -2);
        Check.due("the table has it", x.say(0, Check.ask(60, 40)), 0);
        fieldsAre("echo and table", x, 50, 41);
        Check.due("count", x.say(1, Check.ask(0, 0)), 1);
        fieldsAre("count and constant", x, 8, 41);
        x.say(1, 0);
        fieldsAre("count goes up", x, 9, 41);
        Check.due("b above 99", x.say(2, Check.ask(0, 99)), 2);
        fieldsAre("constant and echo of b", x, 99, 100);
        x = new RecordedNeighbours();
        x.row();
        x.exchange(0, 0, Check.ask(90, 10), Check.answer(0, 0, 90));
        x.exchange(0, 0, Check.ask(91, 11), Check.answer(0, 1, 91));
        x.exchange(0, 0, Check.ask(91, 12), Check.answer(0, 1, 92));
        x.begin();
        x.say(0, Check.ask(0, 99));
        fieldsAre("below 0 and above 99", x, -90, 179);
        x.exchange(0, 0, Check.ask(91, 12), Check.answer(0, 1, 95));
        x.begin();
        x.say(0, Check.ask(99, 0));
        fieldsAre("varies", x, 9, -1000);
    }

    private static void keptAndCountByAnsweredAsks() {
        RecordedNeighbours x = new RecordedNeighbours();
        x.row();
        x.exchange(0, 0, Check.ask(1, 20), Check.answer(0, 0, 5));
        x.exchange(0, 0, Check.ask(1, 30), Check.answer(1, 23, 6));
        x.exchange(0, 0, Check.ask(1, 60), Check.answer(0, 33, 7));
        x.exchange(0, 0, Check.ask(4, 10), Check.answer(1, 0, 8));
        Check.due("kept", x.rule(0, 0), 4);
        Check.due("c of kept", x.by(0, 0), 3);
        Check.due("count", x.rule(0, 1), 3);
        x.begin();
        x.say(0, Check.ask(1, 8));
        fieldsAre("rows are not of the run", x, 0, 5);
        Check.due("unseen", x.say(1, Check.ask(1, 77)), -2);
        x.say(0, Check.ask(2, 9));
        fieldsAre("none of this a", x, 0, 6);
        x.say(0, Check.ask(1, 0));
        fieldsAre("unseen ones are not kept", x, 11, 7);
        x.say(0, Check.ask(1, 99));
        fieldsAre("the latest", x, 3, 8);
        x.say(0, Check.ask(1, 0));
        fieldsAre("above 99", x, 102, 9);
        x.begin();
        x.say(0, Check.ask(1, 0));
        fieldsAre("begun anew", x, 0, 5);
    }

    private static void tableOfTwoFields() {
        RecordedNeighbours x = new RecordedNeighbours();
        x.row();
        x.exchange(0, 0, Check.ask(1, 2), Check.answer(0, 30, 5));
        x.exchange(0, 0, Check.ask(2, 2), Check.answer(0, 10, 5));
        x.exchange(0, 0, Check.ask(1, 3), Check.answer(0, 90, 5));
        x.exchange(0, 1, Check.ask(7, 7), Check.answer(0, 0, 0));
        Check.due("table", x.rule(0, 0), 5);
        x.begin();
        Check.due("in the table", x.say(0, Check.ask(2, 2)), 0);
        fieldsAre("by the table", x, 10, 5);
        Check.due("not in the table", x.say(0, Check.ask(3, 3)), -2);
        Check.due("another verb's ask", x.say(0, Check.ask(7, 7)), -2);
        Check.due("a verb without a table", x.say(1, Check.ask(1, 2)), 0);
        ranIs("table", x, 0, 2, 2);
    }

    private static void runStaysAsItBegan() {
        RecordedNeighbours x = new RecordedNeighbours();
        x.row();
        x.exchange(0, 0, Check.ask(1, 2), Check.answer(1, 30, 5));
        x.begin();
        x.exchange(0, 0, Check.ask(1, 2), Check.answer(2, 31, 6));
        x.exchange(0, 1, Check.ask(1, 2), Check.answer(2, 31, 6));
        Check.due("rules now", x.rule(0, 0), 3);
        for (int i = 0; i < 3; i++) {
            Check.due("machine as it began", x.say(0, 0), 1);
            fieldsAre("rules as they began", x, 30, 5);
        }
        Check.due("a later verb is unseen", x.say(1, 0), -2);
        x.cut(0, 0);
        Check.due("without exchanges", x.say(0, 0), 1);
        ranIs("as it began", x, 0, 4, 1);
    }

    private static void wrongInputs() {
        RecordedNeighbours x = new RecordedNeighbours();
        Check.rowOfCodes(x, 0, 1);
        x.begin();
        x.say(0, 0);
        int[] far = {Integer.MIN_VALUE, -1, 10000, Integer.MAX_VALUE};
        for (int wrong : far) {
            Check.due("say verb " + wrong, x.say(wrong, 0), -1);
            Check.due("say ask " + wrong, x.say(0, wrong), -1);
            Check.due("field " + wrong, x.field(wrong), -1000);
            Check.due("ran " + wrong, x.ran(wrong), -1);
        }
        Check.due("say verb 3", x.say(3, 0), -1);
        Check.due("field 2", x.field(2), -1000);
        Check.due("ran 3", x.ran(3), -1);
        ranIs("other numbers are no asks", x, 0, 1, 0);
        Check.due("greatest ask", x.say(0, 9999), 1);
    }
}
