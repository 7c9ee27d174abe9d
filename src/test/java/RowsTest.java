/** Promises 1 (a new object), 2 (row), 3 (exchange), 4 (cut), 5 (tell), 17 (count). */
public final class RowsTest {
    private static final int[] FAR = {Integer.MIN_VALUE, -1, Integer.MAX_VALUE};

    public static void main(String[] args) {
        newObject();
        rowsUpToEight();
        exchangesUpToTwelve();
        exchangeOfOtherNumbers();
        edgesOfNumbers();
        cuts();
        tells();
        counts();
        Check.end();
    }

    private static void newObject() {
        RecordedNeighbours x = new RecordedNeighbours();
        for (int what = 0; what <= 5; what++) {
            Check.due("new: count " + what, x.count(what), 0);
        }
        Check.due("new: states", x.states(), 0);
        Check.due("new: quarrel", x.quarrel(0), -1);
        Check.due("new: ran", x.ran(0), -1);
        Check.due("new: say", x.say(0, 0), -1);
        Check.due("new: field", x.field(0), -1000);
        Check.due("new: tell", x.tell(0, 0, 0), -1);
        Check.due("new: cut", x.cut(0, 0), false);
        Check.due("new: held", x.held(0, 0), -1);
        Check.due("new: fresh", x.fresh(0, 0), -1);
        for (int k = 0; k < 3; k++) {
            Check.due("new: again " + k, x.again(k), false);
        }
        Check.due("NONE", RecordedNeighbours.NONE, -1);
    }

    private static void rowsUpToEight() {
        RecordedNeighbours x = new RecordedNeighbours();
        for (int row = 0; row < 8; row++) {
            Check.due("row " + row, x.row(), row);
        }
        Check.due("ninth row", x.row(), -1);
        Check.due("rows", x.count(0), 8);
        Check.due("last row", x.exchange(7, 0, 0, 0), 0);
        Check.due("no such row", x.exchange(8, 0, 0, 0), -1);
    }

    private static void exchangesUpToTwelve() {
        RecordedNeighbours x = new RecordedNeighbours();
        x.row();
        x.row();
        for (int place = 0; place < 12; place++) {
            Check.due("exchange " + place, x.exchange(0, 0, place, 0), place);
        }
        Check.due("thirteenth", x.exchange(0, 0, 0, 0), -1);
        Check.due("another row has room", x.exchange(1, 2, 77, 0), 0);
        Check.due("twelfth", x.tell(0, 11, 2), 11);
        Check.due("not spilt over", x.tell(1, 0, 2), 77);
    }

    private static void exchangeOfOtherNumbers() {
        RecordedNeighbours x = new RecordedNeighbours();
        x.row();
        for (int far : FAR) {
            Check.due("row " + far, x.exchange(far, 0, 0, 0), -1);
            Check.due("verb " + far, x.exchange(0, far, 0, 0), -1);
            Check.due("ask " + far, x.exchange(0, 0, far, 0), -1);
            Check.due("answer " + far, x.exchange(0, 0, 0, far), -1);
        }
        Check.due("row 1", x.exchange(1, 0, 0, 0), -1);
        Check.due("verb 3", x.exchange(0, 3, 0, 0), -1);
        Check.due("ask 10000", x.exchange(0, 0, 10000, 0), -1);
        Check.due("answer 40000", x.exchange(0, 0, 0, 40000), -1);
        Check.due("nothing came", x.count(1), 0);
    }

    private static void edgesOfNumbers() {
        RecordedNeighbours x = new RecordedNeighbours();
        x.row();
        Check.due("greatest numbers", x.exchange(0, 2, 9999, 39999), 0);
        int[] want = {2, 99, 99, 3, 99, 99};
        for (int what = 0; what < 6; what++) {
            Check.due("tell " + what, x.tell(0, 0, what), want[what]);
        }
    }

    private static void cuts() {
        RecordedNeighbours x = new RecordedNeighbours();
        x.row();
        x.exchange(0, 0, 1, 0);
        x.exchange(0, 1, 2, 0);
        x.exchange(0, 2, 3, 0);
        Check.due("cut of more", x.cut(0, 4), false);
        Check.due("cut below 0", x.cut(0, -1), false);
        Check.due("cut of no row", x.cut(1, 0), false);
        for (int far : FAR) {
            Check.due("cut of row " + far, x.cut(far, 0), false);
            Check.due("cut to " + far, x.cut(0, far), false);
        }
        Check.due("nothing was cut", x.count(1), 3);
        Check.due("cut to all", x.cut(0, 3), true);
        Check.due("all are there", x.count(1), 3);
        Check.due("cut to 1", x.cut(0, 1), true);
        Check.due("1 is there", x.count(1), 1);
        Check.due("the first", x.tell(0, 0, 2), 1);
        Check.due("the second is gone", x.tell(0, 1, 0), -1);
        Check.due("behind the cut", x.exchange(0, 2, 9, 0), 1);
        Check.due("the new second", x.tell(0, 1, 2), 9);
        Check.due("cut to 0", x.cut(0, 0), true);
        Check.due("the row stays", x.count(0), 1);
        Check.due("no exchanges", x.states(), 0);
        Check.due("cut to 0 again", x.cut(0, 0), true);
    }

    private static void tells() {
        RecordedNeighbours x = new RecordedNeighbours();
        x.row();
        x.row();
        x.exchange(1, 1, Check.ask(23, 4), Check.answer(2, 5, 67));
        int[] want = {1, 23, 4, 2, 5, 67};
        for (int what = 0; what < 6; what++) {
            Check.due("tell " + what, x.tell(1, 0, what), want[what]);
            Check.due("tell of an empty row " + what, x.tell(0, 0, what), -1);
        }
        Check.due("tell 6", x.tell(1, 0, 6), -1);
        Check.due("tell of place 1", x.tell(1, 1, 0), -1);
        Check.due("tell of row 2", x.tell(2, 0, 0), -1);
        for (int far : FAR) {
            Check.due("tell of row " + far, x.tell(far, 0, 0), -1);
            Check.due("tell of place " + far, x.tell(1, far, 0), -1);
            Check.due("tell what " + far, x.tell(1, 0, far), -1);
        }
    }

    private static void counts() {
        RecordedNeighbours x = new RecordedNeighbours();
        x.row();
        x.row();
        x.row();
        x.exchange(0, 0, 102, 0);
        x.exchange(0, 1, 102, 0);
        x.exchange(2, 1, 102, 10000);
        x.exchange(2, 1, 201, 0);
        x.exchange(2, 2, 201, 0);
        int[] want = {3, 5, 1, 3, 1, 4};
        for (int what = 0; what < 6; what++) {
            Check.due("count " + what, x.count(what), want[what]);
        }
        Check.due("count 6", x.count(6), -1);
        for (int far : FAR) {
            Check.due("count " + far, x.count(far), -1);
        }
        x.cut(2, 1);
        Check.due("exchanges behind a cut", x.count(1), 3);
        Check.due("unlike asks behind a cut", x.count(5), 2);
    }
}
