/** Promises 9 (states) and 10 (leads). */
public final class MachineTest {
    public static void main(String[] args) {
        noExchanges();
        oneState();
        leastStatesInOrder();
        laterRowsForceAnEarlierMove();
        fourStates();
        moreThanFourStates();
        movesThatDoNotCome();
        wrongInputs();
        rareCodes();
        Check.end();
    }

    private static void leadsTo(RecordedNeighbours x, int state, int verb, int target, int code) {
        Check.due("from " + state + " by " + verb, x.leads(state, verb, 0), target);
        Check.due("code of " + state + " by " + verb, x.leads(state, verb, 1), code);
    }

    private static void noExchanges() {
        RecordedNeighbours x = new RecordedNeighbours();
        x.row();
        Check.due("empty row", x.states(), 0);
        leadsTo(x, 0, 0, -1, -1);
        x.exchange(0, 0, 0, 0);
        Check.due("one exchange", x.states(), 1);
        x.cut(0, 0);
        Check.due("cut to none", x.states(), 0);
        leadsTo(x, 0, 0, -1, -1);
    }

    private static void oneState() {
        RecordedNeighbours x = new RecordedNeighbours();
        Check.rowOfCodes(x, 0, 3, 1, 2, 0, 3, 1, 2);
        Check.rowOfCodes(x, 1, 2);
        Check.due("one state", x.states(), 1);
        leadsTo(x, 0, 0, 0, 3);
        leadsTo(x, 0, 1, 0, 2);
        leadsTo(x, 0, 2, -1, -1);
    }

    private static void leastStatesInOrder() {
        RecordedNeighbours x = new RecordedNeighbours();
        Check.rowOfCodes(x, 0, 0, 0, 1, 0, 0);
        Check.due("two states", x.states(), 2);
        leadsTo(x, 0, 0, 1, 0);
        leadsTo(x, 1, 0, 0, 1);
        Check.rowOfCodes(x, 0, 0, 0, 1, 0, 0, 0, 0);
        Check.due("three states", x.states(), 3);
        leadsTo(x, 0, 0, 1, 0);
        leadsTo(x, 1, 0, 2, 1);
        leadsTo(x, 2, 0, 0, 0);
    }

    private static void laterRowsForceAnEarlierMove() {
        RecordedNeighbours x = new RecordedNeighbours();
        Check.rowOfCodes(x, 0, 0, 1, 0);
        Check.rowOfCodes(x, 1, 1);
        Check.due("two states", x.states(), 2);
        leadsTo(x, 0, 0, 1, 0);
        leadsTo(x, 1, 1, 0, 0);
        leadsTo(x, 0, 1, 0, 1);
        leadsTo(x, 1, 0, -1, -1);
    }

    private static void fourStates() {
        RecordedNeighbours x = new RecordedNeighbours();
        Check.rowOfCodes(x, 0, 0, 0, 0, 0, 0, 0, 1, 0, 0, 0, 0, 0, 0, 0, 1);
        Check.due("a ring of four", x.states(), 4);
        for (int state = 0; state < 4; state++) {
            leadsTo(x, state, 0, (state + 1) % 4, state == 3 ? 1 : 0);
        }
    }

    private static void moreThanFourStates() {
        RecordedNeighbours x = new RecordedNeighbours();
        Check.rowOfCodes(x, 0, 0, 0, 0, 0, 0, 0, 0, 0, 1);
        Check.due("a ring of five", x.states(), -1);
        leadsTo(x, 0, 0, -1, -1);
        x.cut(0, 4);
        Check.due("cut to less", x.states(), 1);
        leadsTo(x, 0, 0, 0, 0);
    }

    private static void movesThatDoNotCome() {
        RecordedNeighbours x = new RecordedNeighbours();
        Check.rowOfCodes(x, 2, 1, 2, 2);
        Check.due("two states", x.states(), 2);
        leadsTo(x, 0, 2, 1, 1);
        leadsTo(x, 1, 2, 0, 2);
        for (int state = 0; state < 4; state++) {
            leadsTo(x, state, 0, -1, -1);
            leadsTo(x, state, 1, -1, -1);
        }
        leadsTo(x, 2, 2, -1, -1);
        leadsTo(x, 3, 2, -1, -1);
    }

    private static void wrongInputs() {
        RecordedNeighbours x = new RecordedNeighbours();
        Check.rowOfCodes(x, 0, 1, 1, 1, 2, 1);
        int[] far = {Integer.MIN_VALUE, -1, 4, Integer.MAX_VALUE};
        for (int wrong : far) {
            leadsTo(x, wrong, 0, -1, -1);
            leadsTo(x, 0, wrong, -1, -1);
            Check.due("leads what " + wrong, x.leads(0, 0, wrong), -1);
        }
        leadsTo(x, 0, 3, -1, -1);
        Check.due("leads what 2", x.leads(0, 0, 2), -1);
    }

    /** Few codes differ, in rows of all verbs: a search that tried all machines would crawl here. */
    private static void rareCodes() {
        RecordedNeighbours x = new RecordedNeighbours();
        for (int row = 0; row < 8; row++) {
            x.row();
            int state = 0;
            for (int place = 0; place < 12; place++) {
                int verb = (row * 5 + place * place + place / 3) % 3;
                int code = state == 3 && verb == 2 ? 1 : 0;
                x.exchange(row, verb, 0, Check.answer(code, 0, 0));
                state = (state + verb) % 4;
            }
        }
        int states = x.states();
        Check.due("4 at most", states >= 1 && states <= 4, true);
        for (int row = 0; row < 8; row++) {
            int state = 0;
            for (int place = 0; place < 12; place++) {
                int verb = x.tell(row, place, 0);
                Check.due("code", x.leads(state, verb, 1), x.tell(row, place, 3));
                state = x.leads(state, verb, 0);
            }
        }
    }
}
