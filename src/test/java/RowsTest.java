/** Promises 1 (a new object), 2 (row), 3 (exchange), 4 (cut), 5 (tell), 17 (count). */
public final class RowsTest {
    public static void main(String[] args) {
        newObjectHasNoRows();
        newObjectHasNoRun();
        newObjectHasNoImages();
        objectsAreApart();
        rowsAreNumberedFromZero();
        ninthRow();
        eightRowsStayEight();
        placesAreNumberedFromZero();
        exchangeOfNoRow();
        exchangeOfOtherNumbers();
        leastAndGreatestNumbers();
        thirteenthExchange();
        roomBehindACut();
        cutKeepsTheFirst();
        cutToAllAndToNone();
        cutOfNoRow();
        cutToMoreThanThereAre();
        tellOfEachPart();
        tellOfNoExchange();
        tellOfAnotherWhat();
        counts();
        countsOfNone();
        countOfUnlikeAsks();
        countOfAnotherWhat();
        Check.end();
    }

    /** An exchange of each verb, at the places 0, 1 and 2, whose ask has b 1, 2 and 3. */
    private static RecordedNeighbours withThreeExchanges() {
        RecordedNeighbours x = Check.withRows(2);
        for (int verb = 0; verb < 3; verb++) {
            x.exchange(0, verb, verb + 1, 0);
        }
        x.exchange(1, 2, 44, 0);
        return x;
    }

    /** Promise 1: "No ROWS". */
    private static void newObjectHasNoRows() {
        RecordedNeighbours x = new RecordedNeighbours();
        for (int what = 0; what <= 5; what++) {
            Check.due("new: count " + what, x.count(what), 0);
        }
        Check.due("new: exchange", x.exchange(0, 0, 0, 0), -1);
        Check.due("new: tell", x.tell(0, 0, 0), -1);
        Check.due("new: cut", x.cut(0, 0), false);
        Check.due("new: quarrel", x.quarrel(0), -1);
        Check.due("new: rule", x.rule(0, 0), -1);
        Check.due("new: by", x.by(0, 0), -1000);
        Check.due("new: states", x.states(), 0);
        Check.due("new: leads", x.leads(0, 0, 0), -1);
        Check.due("new: held", x.held(0, 0), -1);
        Check.due("new: fresh", x.fresh(0, 0), -1);
        Check.due("new: first row", x.row(), 0);
        Check.due("NONE", RecordedNeighbours.NONE, -1);
    }

    /** Promise 1: "no RUN". */
    private static void newObjectHasNoRun() {
        RecordedNeighbours x = new RecordedNeighbours();
        Check.due("new: say", x.say(0, 0), -1);
        for (int what = 0; what < 3; what++) {
            Check.due("new: ran " + what, x.ran(what), -1);
        }
        for (int field = 0; field < 2; field++) {
            Check.due("new: field " + field, x.field(field), -1000);
        }
        Check.due("new: begin", x.begin(), false);
    }

    /** Promise 1: "no images". */
    private static void newObjectHasNoImages() {
        RecordedNeighbours x = new RecordedNeighbours();
        for (int k = 0; k < 3; k++) {
            Check.due("new: again " + k, x.again(k), false);
        }
    }

    private static void objectsAreApart() {
        RecordedNeighbours one = new RecordedNeighbours();
        Check.rowOfCodes(one, 0, 1);
        one.begin();
        one.image(0);
        RecordedNeighbours other = new RecordedNeighbours();
        Check.due("rows of another object", other.count(0), 0);
        Check.due("run of another object", other.ran(0), -1);
        Check.due("image of another object", other.again(0), false);
        Check.due("its own row", other.row(), 0);
        Check.due("the first keeps its exchange", one.count(1), 1);
    }

    /** Promise 2: "A ROW without EXCHANGES: its number." */
    private static void rowsAreNumberedFromZero() {
        RecordedNeighbours x = new RecordedNeighbours();
        for (int row = 0; row < 8; row++) {
            Check.due("row " + row, x.row(), row);
            Check.due("rows", x.count(0), row + 1);
            Check.due("no exchange in row " + row, x.tell(row, 0, 0), -1);
            Check.due("its first place", x.exchange(row, 0, 0, 0), 0);
        }
    }

    /** Promise 2: "NONE: there are 8." */
    private static void ninthRow() {
        RecordedNeighbours x = Check.withRows(7);
        Check.due("eighth row", x.row(), 7);
        Check.due("ninth row", x.row(), -1);
        Check.due("ninth row again", x.row(), -1);
        Check.due("rows", x.count(0), 8);
        Check.due("the eighth is there", x.exchange(7, 0, 0, 0), 0);
        Check.due("the ninth is not", x.exchange(8, 0, 0, 0), -1);
    }

    private static void eightRowsStayEight() {
        RecordedNeighbours x = Check.withRows(8);
        x.exchange(7, 0, 0, 0);
        x.cut(7, 0);
        Check.due("a cut row is still there", x.row(), -1);
        Check.due("rows behind a cut", x.count(0), 8);
    }

    /** Promise 3: "An EXCHANGE comes behind a ROW: its place." */
    private static void placesAreNumberedFromZero() {
        RecordedNeighbours x = Check.withRows(2);
        for (int place = 0; place < 12; place++) {
            Check.due("place in row 0", x.exchange(0, place % 3, place, 0), place);
            Check.due("place in row 1", x.exchange(1, place % 3, 50 + place, 0), place);
        }
        for (int place = 0; place < 12; place++) {
            Check.due("b in row 0", x.tell(0, place, 2), place);
            Check.due("b in row 1", x.tell(1, place, 2), 50 + place);
        }
    }

    /** Promise 3: "NONE: there is no such ROW". */
    private static void exchangeOfNoRow() {
        for (int rows = 0; rows <= 8; rows++) {
            RecordedNeighbours x = Check.withRows(rows);
            for (int row : Check.outside(rows)) {
                Check.due("exchange of row " + row + " of " + rows, x.exchange(row, 0, 0, 0), -1);
            }
            Check.due("nothing came", x.count(1), 0);
        }
    }

    /** Promise 3: "NONE: .. other numbers". */
    private static void exchangeOfOtherNumbers() {
        RecordedNeighbours x = Check.withRows(1);
        for (int verb : Check.outside(3)) {
            Check.due("verb " + verb, x.exchange(0, verb, 0, 0), -1);
        }
        for (int ask : Check.outside(10000)) {
            Check.due("ask " + ask, x.exchange(0, 0, ask, 0), -1);
        }
        for (int answer : Check.outside(40000)) {
            Check.due("answer " + answer, x.exchange(0, 0, 0, answer), -1);
        }
        Check.due("nothing came", x.count(1), 0);
        Check.due("the first place is free", x.exchange(0, 0, 0, 0), 0);
    }

    /** Terms 1: "a VERB, 0 .. 2, two numbers a, b, 0 .. 99"; "a CODE, 0 .. 3, two FIELDS .., numbers 0 .. 99". */
    private static void leastAndGreatestNumbers() {
        int[][] exchanges = {
            {0, 0, 0, 0, 0, 0}, {2, 99, 99, 3, 99, 99}, {1, 0, 99, 0, 0, 99}, {1, 99, 0, 0, 99, 0},
            {0, 1, 0, 1, 0, 0}, {0, 0, 1, 2, 0, 1}, {2, 98, 99, 2, 99, 99}, {2, 9, 10, 1, 1, 0},
        };
        RecordedNeighbours x = Check.withRows(1);
        for (int place = 0; place < exchanges.length; place++) {
            int[] e = exchanges[place];
            int given = x.exchange(0, e[0], Check.ask(e[1], e[2]), Check.answer(e[3], e[4], e[5]));
            Check.due("place", given, place);
            for (int what = 0; what < 6; what++) {
                Check.due("tell " + what + " of place " + place, x.tell(0, place, what), e[what]);
            }
        }
    }

    /** Promise 3: "NONE: .. it has 12." */
    private static void thirteenthExchange() {
        RecordedNeighbours x = Check.withRows(2);
        for (int place = 0; place < 11; place++) {
            x.exchange(0, 0, place, 0);
        }
        Check.due("twelfth", x.exchange(0, 0, 11, 0), 11);
        Check.due("thirteenth", x.exchange(0, 0, 12, 0), -1);
        Check.due("thirteenth again", x.exchange(0, 1, 12, 10000), -1);
        Check.due("twelve came", x.count(1), 12);
        Check.due("the twelfth stays", x.tell(0, 11, 2), 11);
        Check.due("there is no place 12", x.tell(0, 12, 0), -1);
        Check.due("nothing spilt over", x.tell(1, 0, 0), -1);
        Check.due("another row has room", x.exchange(1, 2, 77, 0), 0);
    }

    private static void roomBehindACut() {
        RecordedNeighbours x = Check.withRows(1);
        for (int place = 0; place < 12; place++) {
            x.exchange(0, 0, place, 0);
        }
        x.cut(0, 11);
        Check.due("room for one", x.exchange(0, 2, 99, 0), 11);
        Check.due("the new twelfth", x.tell(0, 11, 2), 99);
        Check.due("and for no more", x.exchange(0, 2, 98, 0), -1);
    }

    /** Promise 4: "A ROW has its first n EXCHANGES alone: true". */
    private static void cutKeepsTheFirst() {
        RecordedNeighbours x = withThreeExchanges();
        Check.due("cut to 1", x.cut(0, 1), true);
        Check.due("the first", x.tell(0, 0, 2), 1);
        Check.due("the second is gone", x.tell(0, 1, 0), -1);
        Check.due("the other row stays", x.tell(1, 0, 2), 44);
        Check.due("exchanges", x.count(1), 2);
        Check.due("behind the cut", x.exchange(0, 2, 9, 0), 1);
        Check.due("the new second", x.tell(0, 1, 2), 9);
        Check.due("the third does not come back", x.tell(0, 2, 0), -1);
    }

    private static void cutToAllAndToNone() {
        RecordedNeighbours x = withThreeExchanges();
        Check.due("cut to all", x.cut(0, 3), true);
        Check.due("all are there", x.count(1), 4);
        Check.due("cut to 0", x.cut(0, 0), true);
        Check.due("the other's is there", x.count(1), 1);
        Check.due("the row stays", x.count(0), 2);
        Check.due("cut of an empty row", x.cut(0, 0), true);
        Check.due("its first place", x.exchange(0, 0, 0, 0), 0);
        x = Check.withRows(8);
        for (int place = 0; place < 12; place++) {
            x.exchange(7, 0, place, 0);
        }
        Check.due("cut of a full row to all", x.cut(7, 12), true);
        Check.due("all twelve", x.count(1), 12);
        Check.due("cut of a full row to more", x.cut(7, 13), false);
        Check.due("cut of a full row to none", x.cut(7, 0), true);
        Check.due("none", x.count(1), 0);
    }

    /** Promise 4: "false: there is none such". */
    private static void cutOfNoRow() {
        for (int rows = 0; rows <= 8; rows++) {
            RecordedNeighbours x = Check.withRows(rows);
            for (int row : Check.outside(rows)) {
                Check.due("cut of row " + row + " of " + rows, x.cut(row, 0), false);
            }
        }
    }

    /** Promise 4: "false: .. it has not so many." */
    private static void cutToMoreThanThereAre() {
        RecordedNeighbours x = withThreeExchanges();
        for (int n : Check.outside(4)) {
            Check.due("cut to " + n, x.cut(0, n), false);
        }
        Check.due("cut of the other row to 2", x.cut(1, 2), false);
        Check.due("nothing was cut", x.count(1), 4);
        Check.due("an empty row has no first one", Check.withRows(1).cut(0, 1), false);
    }

    /** Promise 5: "Of an EXCHANGE, what 0: VERB, 1: a, 2: b, 3: CODE, 4, 5: FIELDS." */
    private static void tellOfEachPart() {
        RecordedNeighbours x = Check.withRows(2);
        x.exchange(1, 0, 0, 0);
        x.exchange(1, 1, Check.ask(23, 4), Check.answer(2, 5, 67));
        int[] want = {1, 23, 4, 2, 5, 67};
        for (int what = 0; what < 6; what++) {
            Check.due("tell " + what, x.tell(1, 1, what), want[what]);
            Check.due("tell of zeros " + what, x.tell(1, 0, what), 0);
        }
    }

    /** Promise 5: "NONE: there is none such". */
    private static void tellOfNoExchange() {
        RecordedNeighbours x = withThreeExchanges();
        for (int row : Check.outside(2)) {
            Check.due("tell of row " + row, x.tell(row, 0, 0), -1);
        }
        for (int place : Check.outside(3)) {
            Check.due("tell of place " + place, x.tell(0, place, 0), -1);
        }
        Check.due("tell of the shorter row", x.tell(1, 1, 0), -1);
        x = Check.withRows(8);
        for (int what = 0; what < 6; what++) {
            Check.due("tell of an empty row " + what, x.tell(7, 0, what), -1);
            Check.due("tell of a ninth row " + what, x.tell(8, 0, what), -1);
        }
    }

    /** Promise 5: "NONE: .. for another what." */
    private static void tellOfAnotherWhat() {
        RecordedNeighbours x = withThreeExchanges();
        for (int what : Check.outside(6)) {
            Check.due("tell what " + what, x.tell(0, 2, what), -1);
        }
    }

    /** Promise 17: "How many: 0 ROWS, 1 EXCHANGES, 2 .. 4 those of VERB what - 2, 5 unlike ASKS." */
    private static void counts() {
        RecordedNeighbours x = Check.withRows(3);
        x.exchange(0, 0, 102, 0);
        x.exchange(0, 1, 102, 0);
        x.exchange(2, 1, 102, 10000);
        x.exchange(2, 1, 201, 0);
        x.exchange(2, 2, 201, 0);
        int[] want = {3, 5, 1, 3, 1, 4};
        for (int what = 0; what < 6; what++) {
            Check.due("count " + what, x.count(what), want[what]);
        }
        x.cut(2, 1);
        int[] wantBehindACut = {3, 3, 1, 2, 0, 2};
        for (int what = 0; what < 6; what++) {
            Check.due("behind a cut: count " + what, x.count(what), wantBehindACut[what]);
        }
    }

    private static void countsOfNone() {
        RecordedNeighbours x = Check.withRows(2);
        x.exchange(1, 2, 5, 5);
        x.cut(1, 0);
        int[] want = {2, 0, 0, 0, 0, 0};
        for (int what = 0; what < 6; what++) {
            Check.due("of empty rows: count " + what, x.count(what), want[what]);
        }
    }

    /** Terms 1: an ASK is "a VERB .., two numbers a, b"; the ANSWER is no part of it. */
    private static void countOfUnlikeAsks() {
        RecordedNeighbours x = Check.withRows(2);
        x.exchange(0, 0, Check.ask(1, 2), 0);
        x.exchange(0, 0, Check.ask(1, 2), 39999);
        x.exchange(1, 0, Check.ask(1, 2), 12345);
        Check.due("the same ask three times", x.count(5), 1);
        x.exchange(1, 1, Check.ask(1, 2), 0);
        Check.due("another verb", x.count(5), 2);
        x.exchange(1, 0, Check.ask(2, 1), 0);
        Check.due("a and b the other way round", x.count(5), 3);
        x.exchange(1, 0, Check.ask(1, 3), 0);
        Check.due("another b", x.count(5), 4);
        x.exchange(1, 0, Check.ask(3, 2), 0);
        Check.due("another a", x.count(5), 5);
        x.exchange(0, 0, Check.ask(3, 2), 0);
        Check.due("seen in another row", x.count(5), 5);
    }

    /** Promise 17: "NONE for another what." */
    private static void countOfAnotherWhat() {
        RecordedNeighbours x = withThreeExchanges();
        for (int what : Check.outside(6)) {
            Check.due("count " + what, x.count(what), -1);
        }
    }
}
