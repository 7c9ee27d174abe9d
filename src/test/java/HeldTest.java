/** Promises 15 (held) and 16 (fresh). */
public final class HeldTest {
    public static void main(String[] args) {
        heldIsNeverAnother();
        freshUnseen();
        freshCode();
        freshFields();
        freshTable();
        freshOfNoOthers();
        runIsLeftAlone();
        wrongInputs();
        Check.end();
    }

    private static void freshIs(String name, RecordedNeighbours x, int row, int place, int kind) {
        Check.due(name + ": place", x.fresh(row, 0), place);
        Check.due(name + ": kind", x.fresh(row, 1), kind);
        Check.due(name + ": what 2", x.fresh(row, 2), -1);
        Check.due(name + ": what -1", x.fresh(row, -1), -1);
    }

    /** The stand-in of all rows agrees with each of them, since it was made of them. */
    private static void heldIsNeverAnother() {
        RecordedNeighbours x = new RecordedNeighbours();
        x.row();
        x.exchange(0, 0, 105, 0);
        x.exchange(0, 1, 100, 10500);
        x.exchange(0, 1, 200, 7);
        x.exchange(0, 1, 200, 9);
        x.row();
        x.exchange(1, 0, 107, 0);
        x.exchange(1, 1, 100, 10700);
        x.row();
        for (int row = 0; row < 3; row++) {
            Check.due("held place", x.held(row, 0), -1);
            Check.due("held kind", x.held(row, 1), -1);
        }
    }

    private static void freshUnseen() {
        RecordedNeighbours x = new RecordedNeighbours();
        Check.rowOfCodes(x, 0, 0, 0, 0, 1, 0);
        Check.rowOfCodes(x, 0, 0);
        freshIs("unseen verb", x, 0, 2, 0);
        freshIs("all seen", x, 1, -1, -1);
        Check.rowOfCodes(x, 2, 3);
        freshIs("unseen at place 0", x, 2, 0, 0);
        x.row();
        freshIs("empty row", x, 3, -1, -1);
    }

    private static void freshCode() {
        RecordedNeighbours x = new RecordedNeighbours();
        Check.rowOfCodes(x, 0, 1, 0, 1);
        Check.rowOfCodes(x, 0, 1, 0, 1, 0, 2);
        freshIs("another code", x, 1, 2, 1);
        x = new RecordedNeighbours();
        x.row();
        x.exchange(0, 0, 0, Check.answer(1, 7, 7));
        x.row();
        x.exchange(1, 0, 0, Check.answer(2, 8, 8));
        Check.due("they quarrel", x.states(), -1);
        Check.due("no machine for held", x.held(1, 0), -1);
        freshIs("the code comes ahead of fields", x, 1, 0, 1);
    }

    private static void freshFields() {
        RecordedNeighbours x = new RecordedNeighbours();
        x.row();
        x.exchange(0, 0, Check.ask(1, 2), Check.answer(0, 1, 2));
        x.exchange(0, 0, Check.ask(5, 9), Check.answer(0, 5, 9));
        x.row();
        x.exchange(1, 0, Check.ask(8, 3), Check.answer(0, 8, 3));
        x.exchange(1, 0, Check.ask(8, 3), Check.answer(0, 7, 4));
        freshIs("field 0 ahead of field 1", x, 1, 1, 2);
        x.cut(1, 1);
        freshIs("as told", x, 1, -1, -1);
        x.exchange(1, 0, Check.ask(8, 3), Check.answer(0, 8, 4));
        freshIs("field 1", x, 1, 1, 3);
        x.exchange(0, 0, Check.ask(5, 9), Check.answer(0, 5, 30));
        freshIs("one that varies is never another", x, 1, -1, -1);
    }

    private static void freshTable() {
        RecordedNeighbours x = new RecordedNeighbours();
        x.row();
        x.exchange(0, 0, Check.ask(1, 2), Check.answer(0, 30, 0));
        x.exchange(0, 0, Check.ask(2, 2), Check.answer(0, 10, 0));
        x.exchange(0, 0, Check.ask(1, 3), Check.answer(0, 90, 0));
        x.row();
        x.exchange(1, 0, Check.ask(2, 2), Check.answer(0, 10, 0));
        x.exchange(1, 0, Check.ask(9, 9), Check.answer(0, 10, 0));
        freshIs("not in the others' table", x, 1, 1, 0);
        Check.due("in the table of all", x.held(1, 0), -1);
    }

    private static void freshOfNoOthers() {
        RecordedNeighbours x = new RecordedNeighbours();
        Check.rowOfCodes(x, 0, 1);
        freshIs("no other rows", x, 0, -1, -1);
        x.row();
        freshIs("no other exchanges", x, 0, -1, -1);
        Check.rowOfCodes(x, 1, 0);
        Check.rowOfCodes(x, 1, 1);
        freshIs("no machine of the others", x, 0, -1, -1);
        freshIs("a machine of the others", x, 2, 0, 1);
    }

    private static void runIsLeftAlone() {
        RecordedNeighbours x = new RecordedNeighbours();
        Check.rowOfCodes(x, 0, 1, 0, 2);
        Check.rowOfCodes(x, 0, 1);
        x.begin();
        x.say(0, 0);
        x.fresh(0, 0);
        x.held(0, 0);
        Check.due("state", x.ran(0), 1);
        Check.due("answered", x.ran(1), 1);
        Check.due("unseen", x.ran(2), 0);
        Check.due("the machine of all", x.states(), 2);
        Check.due("say", x.say(0, 0), 2);
    }

    private static void wrongInputs() {
        RecordedNeighbours x = new RecordedNeighbours();
        Check.rowOfCodes(x, 0, 1);
        Check.rowOfCodes(x, 1, 1);
        int[] far = {Integer.MIN_VALUE, -1, 2, 8, Integer.MAX_VALUE};
        for (int wrong : far) {
            Check.due("held row " + wrong, x.held(wrong, 0), -1);
            Check.due("held what " + wrong, x.held(0, wrong), -1);
            Check.due("fresh row " + wrong, x.fresh(wrong, 0), -1);
            Check.due("fresh what " + wrong, x.fresh(0, wrong), -1);
        }
        freshIs("there is one", x, 0, 0, 0);
    }
}
