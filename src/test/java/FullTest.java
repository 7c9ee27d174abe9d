/** All promises: an object that is as full as it can be, and one that is used for all its 512 calls. */
public final class FullTest {
    public static void main(String[] args) {
        full();
        besideTheFull();
        tableOfAllAsks();
        fullImages();
        fullQuarrel();
        emptiedAgain();
        allCallsOfAnObject();
        imagesToTheLastCall();
        Check.end();
    }

    /** The b of an ask; its a is its row, so that all 96 asks are unlike. */
    private static int numberOf(int row, int place) {
        return (row * 12 + place) * 37 % 100;
    }

    private static int verbOf(int row, int place) {
        return place == 0 ? row % 3 : place == 1 ? row / 3 : (row + place) % 3;
    }

    /** Eight rows of twelve: the code goes by the place, field 0 by TABLE, field 1 is CONSTANT. */
    private static RecordedNeighbours fullObject() {
        RecordedNeighbours x = Check.withRows(8);
        for (int row = 0; row < 8; row++) {
            for (int place = 0; place < 12; place++) {
                int number = numberOf(row, place);
                Check.due("exchange", x.exchange(row, verbOf(row, place), Check.ask(row, number),
                        Check.answer(place % 4, number * 7 % 100, 99)), place);
            }
        }
        return x;
    }

    private static void full() {
        RecordedNeighbours x = fullObject();
        int[] ofVerbs = new int[3];
        for (int row = 0; row < 8; row++) {
            for (int place = 0; place < 12; place++) {
                ofVerbs[verbOf(row, place)]++;
                Check.due("verb", x.tell(row, place, 0), verbOf(row, place));
                Check.due("b", x.tell(row, place, 2), numberOf(row, place));
            }
        }
        int[] want = {8, 96, ofVerbs[0], ofVerbs[1], ofVerbs[2], 96};
        for (int what = 0; what < 6; what++) {
            Check.due("full: count " + what, x.count(what), want[what]);
        }
        Check.due("full: states", x.states(), 4);
        Check.due("full: quarrel", x.quarrel(0), -1);
        for (int row = 0; row < 8; row++) {
            Check.due("full: held", x.held(row, 0), -1);
            Check.due("full: fresh place", x.fresh(row, 0), 0);
            Check.due("full: fresh kind", x.fresh(row, 1), 0);
        }
    }

    private static void besideTheFull() {
        RecordedNeighbours x = fullObject();
        Check.due("ninth row", x.row(), -1);
        for (int row = 0; row <= 8; row++) {
            Check.due("thirteenth exchange", x.exchange(row, 0, 0, 0), -1);
            Check.due("place 12", x.tell(row, 12, 0), -1);
            Check.due("cut to 13", x.cut(row, 13), false);
        }
        for (int row : Check.outside(8)) {
            Check.due("tell of row " + row, x.tell(row, 0, 0), -1);
            Check.due("cut of row " + row, x.cut(row, 0), false);
            Check.due("held of row " + row, x.held(row, 0), -1);
            Check.due("fresh of row " + row, x.fresh(row, 0), -1);
        }
        Check.due("still full", x.count(1), 96);
        Check.due("the last is there", x.tell(7, 11, 2), numberOf(7, 11));
    }

    private static void tableOfAllAsks() {
        RecordedNeighbours x = fullObject();
        for (int verb = 0; verb < 3; verb++) {
            Check.due("table", x.rule(verb, 0), 5);
            Check.due("constant", x.by(verb, 1), 99);
        }
        Check.due("begin", x.begin(), true);
        for (int place = 0; place < 12; place++) {
            int ask = Check.ask(7, numberOf(7, place));
            Check.due("an ask of row 7", x.say(verbOf(7, place), ask), place % 4);
            Check.due("by the table", x.field(0), numberOf(7, place) * 7 % 100);
        }
        Check.due("not in the table", x.say(0, Check.ask(8, 0)), -2);
        Check.due("answered", x.ran(1), 12);
    }

    private static void fullImages() {
        RecordedNeighbours x = fullObject();
        x.begin();
        x.say(verbOf(7, 0), Check.ask(7, numberOf(7, 0)));
        for (int k = 0; k < 3; k++) {
            Check.due("image " + k, x.image(k), true);
            x.cut(7 - k, 11 - k);
        }
        int[] want = {96, 95, 93};
        for (int k = 2; k >= 0; k--) {
            Check.due("again " + k, x.again(k), true);
            Check.due("exchanges of image " + k, x.count(1), want[k]);
            Check.due("no ninth row", x.row(), -1);
            Check.due("the run", x.ran(1), 1);
        }
        Check.due("the last exchange", x.tell(7, 11, 2), numberOf(7, 11));
        Check.due("its table", x.say(verbOf(7, 1), Check.ask(7, numberOf(7, 1))), 1);
    }

    private static void fullQuarrel() {
        RecordedNeighbours x = Check.withRows(8);
        for (int row = 0; row < 8; row++) {
            for (int place = 0; place < 12; place++) {
                x.exchange(row, 2, 9999, row == 7 && place == 11 ? 29999 : 39999);
            }
        }
        Check.due("first", x.quarrel(0), 0);
        Check.due("second", x.quarrel(1), 7);
        Check.due("place", x.quarrel(2), 11);
        Check.due("none agrees", x.states(), -1);
        Check.due("like asks", x.count(5), 1);
        Check.due("fresh place", x.fresh(7, 0), 11);
        Check.due("fresh kind", x.fresh(7, 1), 1);
        Check.due("the others quarrel", x.fresh(0, 0), -1);
    }

    private static void emptiedAgain() {
        RecordedNeighbours x = fullObject();
        x.states();
        x.rule(0, 0);
        for (int row = 0; row < 8; row++) {
            Check.due("cut", x.cut(row, 0), true);
        }
        int[] want = {8, 0, 0, 0, 0, 0};
        for (int what = 0; what < 6; what++) {
            Check.due("emptied: count " + what, x.count(what), want[what]);
        }
        Check.due("emptied: states", x.states(), 0);
        Check.due("emptied: rule", x.rule(0, 0), -1);
        Check.due("emptied: begin", x.begin(), false);
        Check.due("emptied: no ninth row", x.row(), -1);
        Check.due("emptied: exchange", x.exchange(7, 0, 0, 0), 0);
        Check.due("emptied: one state", x.states(), 1);
    }

    /** What it is: "An object is used for at most 512 calls after it has been made". */
    private static void allCallsOfAnObject() {
        RecordedNeighbours x = new RecordedNeighbours();
        x.row();
        for (int i = 0; i < 3; i++) {
            x.exchange(0, 0, 0, Check.answer(i, 90 + i, 7));
        }
        x.exchange(0, 0, 0, Check.answer(0, 93, 7));
        x.begin();
        int calls = 6;
        int said = 0;
        while (calls < 510) {
            Check.due("code", x.say(0, Check.ask(said % 100, 0)), said % 3);
            Check.due("count goes on", x.field(0), 90 + said);
            calls += 2;
            said++;
        }
        Check.due("511th call", x.ran(1), said);
        Check.due("512th call", x.ran(0), said % 3);
    }

    private static void imagesToTheLastCall() {
        RecordedNeighbours x = new RecordedNeighbours();
        Check.rowOfCodes(x, 1, 3);
        x.begin();
        for (int i = 0; i < 100; i++) {
            Check.due("image", x.image(i % 3), true);
            Check.due("exchange", x.exchange(0, 1, i, 0), 1);
            Check.due("say", x.say(1, 0), 3);
            Check.due("again", x.again(i % 3), true);
            Check.due("nothing said", x.ran(1), 0);
        }
    }
}
