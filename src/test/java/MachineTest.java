/** Promises 9 (states) and 10 (leads). */
public final class MachineTest {
    public static void main(String[] args) {
        noExchanges();
        noneAgreesIfRowsQuarrel();
        fourAtMost();
        fewestStates();
        rowsBeginInStateZero();
        rowsWithoutExchanges();
        oneState();
        leastStatesInOrder();
        laterRowsForceAnEarlierMove();
        stateThatHasComeAheadOfANewOne();
        leastOfThoseThatHaveCome();
        leastOfThoseThatHaveNotCome();
        rowByRow();
        movesThatDoNotCome();
        leadsWithoutAMachine();
        noSuchStateOrVerb();
        anotherWhat();
        rareCodes();
        Check.end();
    }

    private static void leadsTo(RecordedNeighbours x, int state, int verb, int target, int code) {
        Check.due("from " + state + " by " + verb, x.leads(state, verb, 0), target);
        Check.due("code of " + state + " by " + verb, x.leads(state, verb, 1), code);
    }

    private static void leadsNowhere(RecordedNeighbours x) {
        for (int state = 0; state < 4; state++) {
            for (int verb = 0; verb < 3; verb++) {
                leadsTo(x, state, verb, -1, -1);
            }
        }
    }

    /** Promise 9: "0: there are no EXCHANGES". */
    private static void noExchanges() {
        Check.due("no rows", new RecordedNeighbours().states(), 0);
        Check.due("eight empty rows", Check.withRows(8).states(), 0);
        RecordedNeighbours x = Check.withRows(2);
        x.exchange(1, 0, 0, 0);
        Check.due("one exchange", x.states(), 1);
        x.cut(1, 0);
        Check.due("cut to none", x.states(), 0);
    }

    /** Promise 9: "NONE: none AGREES." */
    private static void noneAgreesIfRowsQuarrel() {
        RecordedNeighbours x = new RecordedNeighbours();
        Check.rowOfCodes(x, 0, 1);
        Check.rowOfCodes(x, 0, 2);
        Check.due("they quarrel", x.states(), -1);
        x.cut(0, 0);
        Check.due("one is left", x.states(), 1);
        leadsTo(x, 0, 0, 0, 2);
    }

    /** Terms 3: "4 at most". */
    private static void fourAtMost() {
        RecordedNeighbours x = new RecordedNeighbours();
        Check.rowOfCodes(x, 0, 0, 0, 0, 0, 0, 0, 1, 0, 0, 0, 0, 0, 0, 0, 1);
        Check.due("a ring of four", x.states(), 4);
        for (int state = 0; state < 4; state++) {
            leadsTo(x, state, 0, (state + 1) % 4, state == 3 ? 1 : 0);
        }
        x = new RecordedNeighbours();
        Check.rowOfCodes(x, 0, 0, 0, 0, 0, 0, 0, 0, 0, 1);
        Check.due("it would need five", x.states(), -1);
        Check.due("no rows quarrel", x.quarrel(0), -1);
        x.cut(0, 4);
        Check.due("cut to less", x.states(), 1);
        leadsTo(x, 0, 0, 0, 0);
        x = new RecordedNeighbours();
        Check.rowOfCodes(x, 0, 0, 0, 0, 0, 0, 0, 0, 0, 0, 0, 0, 0, 0, 0, 0, 0, 0, 0, 0, 0, 0, 0, 1);
        Check.due("it would need twelve", x.states(), -1);
    }

    /** Terms 3: "It has the fewest STATES with which one AGREES". */
    private static void fewestStates() {
        for (int states = 1; states <= 4; states++) {
            RecordedNeighbours x = Check.withRows(1);
            for (int place = 0; place < 12; place++) {
                x.exchange(0, 1, 0, Check.answer(place % states, 0, 0));
            }
            Check.due("a ring of " + states, x.states(), states);
        }
    }

    /** Terms 3: "a ROW begins in STATE 0". */
    private static void rowsBeginInStateZero() {
        RecordedNeighbours x = new RecordedNeighbours();
        Check.rowOfCodes(x, 0, 1, 0, 2);
        Check.rowOfCodes(x, 0, 1);
        Check.due("two states", x.states(), 2);
        leadsTo(x, 0, 0, 1, 1);
        Check.rowOfCodes(x, 0, 2);
        Check.due("it does not go on where another ended", x.states(), -1);
    }

    private static void rowsWithoutExchanges() {
        RecordedNeighbours x = Check.withRows(3);
        x.exchange(1, 0, 0, Check.answer(1, 0, 0));
        x.exchange(1, 0, 0, Check.answer(2, 0, 0));
        Check.due("empty rows ahead and behind", x.states(), 2);
        leadsTo(x, 0, 0, 1, 1);
        leadsTo(x, 1, 0, 0, 2);
    }

    private static void oneState() {
        RecordedNeighbours x = new RecordedNeighbours();
        Check.rowOfCodes(x, 0, 3, 1, 2, 0, 3, 1, 2);
        Check.rowOfCodes(x, 1, 2);
        Check.due("one state", x.states(), 1);
        leadsTo(x, 0, 0, 0, 3);
        leadsTo(x, 0, 1, 0, 2);
        leadsTo(x, 0, 2, -1, -1);
    }

    /** Terms 3: "the least one with which .. a MACHINE that AGREES is left". */
    private static void leastStatesInOrder() {
        RecordedNeighbours x = new RecordedNeighbours();
        Check.rowOfCodes(x, 0, 0, 0, 1, 0, 0);
        Check.due("two states", x.states(), 2);
        leadsTo(x, 0, 0, 1, 0);
        leadsTo(x, 1, 0, 0, 1);
        Check.rowOfCodes(x, 0, 0, 0, 1, 0, 0, 0, 0);
        Check.due("three states", x.states(), 3);
        leadsTo(x, 0, 0, 1, 0);
        leadsTo(x, 1, 0, 2, 1);
        leadsTo(x, 2, 0, 0, 0);
    }

    private static void laterRowsForceAnEarlierMove() {
        RecordedNeighbours x = new RecordedNeighbours();
        Check.rowOfCodes(x, 0, 0, 1, 0);
        Check.rowOfCodes(x, 1, 1);
        Check.due("two states", x.states(), 2);
        leadsTo(x, 0, 0, 1, 0);
        leadsTo(x, 1, 1, 0, 0);
        leadsTo(x, 0, 1, 0, 1);
        leadsTo(x, 1, 0, -1, -1);
    }

    /** Verb 1 could lead to any of three states, of which two have not come. */
    private static void stateThatHasComeAheadOfANewOne() {
        RecordedNeighbours x = new RecordedNeighbours();
        Check.rowOfCodes(x, 1, 0);
        Check.rowOfCodes(x, 0, 1, 0, 2, 0, 3, 0, 1);
        Check.due("three states", x.states(), 3);
        leadsTo(x, 0, 1, 0, 0);
        leadsTo(x, 0, 0, 1, 1);
        leadsTo(x, 1, 0, 2, 2);
        leadsTo(x, 2, 0, 0, 3);
    }

    private static void leastOfThoseThatHaveCome() {
        RecordedNeighbours x = new RecordedNeighbours();
        Check.rowOfCodes(x, 0, 1, 0, 2, 0, 3, 0, 1);
        Check.rowOfCodes(x, 1, 0, 0, 2);
        Check.rowOfCodes(x, 2, 0, 2, 3);
        Check.due("three states", x.states(), 3);
        leadsTo(x, 0, 1, 1, 0);
        leadsTo(x, 0, 2, 1, 0);
        leadsTo(x, 1, 2, 0, 3);
    }

    /** Terms 3: "a STATE that has not come yet only if it is the least of these." */
    private static void leastOfThoseThatHaveNotCome() {
        RecordedNeighbours x = new RecordedNeighbours();
        Check.rowOfCodes(x, 2, 0, 0, 3);
        Check.rowOfCodes(x, 1, 0, 0, 2);
        Check.rowOfCodes(x, 0, 1, 0, 0);
        Check.due("four states", x.states(), 4);
        leadsTo(x, 0, 2, 1, 0);
        leadsTo(x, 1, 0, 0, 3);
        leadsTo(x, 0, 1, 2, 0);
        leadsTo(x, 2, 0, 0, 2);
        leadsTo(x, 0, 0, 3, 1);
        leadsTo(x, 3, 0, 0, 0);
    }

    /** Terms 3: "ROW by ROW, EXCHANGE by EXCHANGE". The same rows the other way round. */
    private static void rowByRow() {
        RecordedNeighbours x = new RecordedNeighbours();
        Check.rowOfCodes(x, 0, 0, 0, 1);
        Check.rowOfCodes(x, 1, 0, 0, 2);
        Check.due("three states", x.states(), 3);
        leadsTo(x, 0, 0, 1, 0);
        leadsTo(x, 0, 1, 2, 0);
        x = new RecordedNeighbours();
        Check.rowOfCodes(x, 1, 0, 0, 2);
        Check.rowOfCodes(x, 0, 0, 0, 1);
        Check.due("three states", x.states(), 3);
        leadsTo(x, 0, 1, 1, 0);
        leadsTo(x, 0, 0, 2, 0);
    }

    /** Terms 3: "STATES and VERBS that do not come lead to none, and tell none." Promise 10: "NONE: it has none". */
    private static void movesThatDoNotCome() {
        RecordedNeighbours x = new RecordedNeighbours();
        Check.rowOfCodes(x, 2, 1, 2, 2);
        Check.due("two states", x.states(), 2);
        leadsTo(x, 0, 2, 1, 1);
        leadsTo(x, 1, 2, 0, 2);
        for (int state = 0; state < 4; state++) {
            leadsTo(x, state, 0, -1, -1);
            leadsTo(x, state, 1, -1, -1);
        }
        leadsTo(x, 2, 2, -1, -1);
        leadsTo(x, 3, 2, -1, -1);
    }

    private static void leadsWithoutAMachine() {
        leadsNowhere(new RecordedNeighbours());
        leadsNowhere(Check.withRows(1));
        RecordedNeighbours x = new RecordedNeighbours();
        Check.rowOfCodes(x, 0, 1, 1, 1);
        leadsTo(x, 0, 0, 0, 1);
        Check.rowOfCodes(x, 0, 2);
        leadsNowhere(x);
        x.cut(0, 0);
        x.cut(1, 0);
        leadsNowhere(x);
        Check.rowOfCodes(x, 0, 0, 0, 0, 0, 0, 0, 0, 0, 1);
        leadsNowhere(x);
    }

    /** Promise 10: "NONE: .. there is none such". */
    private static void noSuchStateOrVerb() {
        RecordedNeighbours x = new RecordedNeighbours();
        Check.rowOfCodes(x, 0, 1, 1, 1, 2, 1);
        for (int state : Check.outside(1)) {
            leadsTo(x, state, 0, -1, -1);
            leadsTo(x, state, 2, -1, -1);
        }
        for (int verb : Check.outside(3)) {
            leadsTo(x, 0, verb, -1, -1);
        }
        x = new RecordedNeighbours();
        Check.rowOfCodes(x, 0, 0, 0, 1, 0, 2, 0, 3, 0, 0);
        leadsTo(x, 3, 0, 0, 3);
        for (int state : Check.outside(4)) {
            leadsTo(x, state, 0, -1, -1);
        }
        for (int verb : Check.outside(3)) {
            leadsTo(x, 0, verb, -1, -1);
            leadsTo(x, 3, verb, -1, -1);
        }
    }

    /** Promise 10: "NONE: .. for another what." */
    private static void anotherWhat() {
        RecordedNeighbours x = new RecordedNeighbours();
        Check.rowOfCodes(x, 0, 1, 1, 1, 2, 1);
        for (int what : Check.outside(2)) {
            Check.due("leads what " + what, x.leads(0, 0, what), -1);
        }
    }

    /** Few codes differ, in full rows of all verbs: a search that tried all machines would crawl here. */
    private static void rareCodes() {
        RecordedNeighbours x = Check.withRows(8);
        for (int row = 0; row < 8; row++) {
            int state = 0;
            for (int place = 0; place < 12; place++) {
                int verb = (row * 5 + place * place + place / 3) % 3;
                int code = state == 3 && verb == 2 ? 1 : 0;
                x.exchange(row, verb, 0, Check.answer(code, 0, 0));
                state = (state + verb) % 4;
            }
        }
        int states = x.states();
        Check.due("4 at most", states >= 1 && states <= 4, true);
        for (int row = 0; row < 8; row++) {
            int state = 0;
            for (int place = 0; place < 12; place++) {
                int verb = (row * 5 + place * place + place / 3) % 3;
                Check.due("code", x.leads(state, verb, 1), x.tell(row, place, 3));
                state = x.leads(state, verb, 0);
            }
        }
    }
}
