/** Promise 6 (quarrel). */
public final class QuarrelTest {
    public static void main(String[] args) {
        firstPlaceOfOtherCodes();
        firstAndLastPlace();
        otherVerbsAheadEndIt();
        asksAndFieldsDoNotQuarrel();
        shorterRows();
        leastRowsFirst();
        lastRows();
        noneQuarrel();
        anotherWhat();
        Check.end();
    }

    private static void quarrels(String name, RecordedNeighbours x, int first, int second, int place) {
        Check.due(name + ": first", x.quarrel(0), first);
        Check.due(name + ": second", x.quarrel(1), second);
        Check.due(name + ": place", x.quarrel(2), place);
    }

    private static void noneQuarrels(String name, RecordedNeighbours x) {
        quarrels(name, x, -1, -1, -1);
    }

    /** Terms 1: "other CODES at that place (the first such place)". */
    private static void firstPlaceOfOtherCodes() {
        RecordedNeighbours x = new RecordedNeighbours();
        Check.rowOfCodes(x, 0, 0, 1, 1, 2, 2, 0, 1);
        Check.rowOfCodes(x, 0, 0, 1, 1, 2, 3, 0, 2);
        quarrels("third place", x, 0, 1, 2);
        Check.due("no machine", x.states(), -1);
        x.cut(1, 3);
        quarrels("cut behind it", x, 0, 1, 2);
        x.cut(1, 2);
        noneQuarrels("cut ahead of it", x);
    }

    private static void firstAndLastPlace() {
        RecordedNeighbours x = Check.withRows(2);
        for (int place = 0; place < 12; place++) {
            x.exchange(0, place % 3, 0, Check.answer(1, 0, 0));
            x.exchange(1, place % 3, 0, Check.answer(place == 11 ? 2 : 1, 0, 0));
        }
        quarrels("the last place of full rows", x, 0, 1, 11);
        x = new RecordedNeighbours();
        Check.rowOfCodes(x, 2, 3);
        Check.rowOfCodes(x, 2, 0);
        quarrels("place 0", x, 0, 1, 0);
    }

    /** Terms 1: "up to some place, they have the same VERBS one by one" (that place's too). */
    private static void otherVerbsAheadEndIt() {
        RecordedNeighbours x = new RecordedNeighbours();
        Check.rowOfCodes(x, 0, 0, 1, 0, 2, 0);
        Check.rowOfCodes(x, 0, 0, 2, 0, 2, 1);
        noneQuarrels("other verbs ahead", x);
        Check.rowOfCodes(x, 1, 0);
        Check.rowOfCodes(x, 2, 1);
        noneQuarrels("other verb at the place", x);
    }

    private static void asksAndFieldsDoNotQuarrel() {
        RecordedNeighbours x = Check.withRows(2);
        x.exchange(0, 0, Check.ask(1, 2), Check.answer(1, 5, 6));
        x.exchange(1, 0, Check.ask(1, 2), Check.answer(1, 99, 0));
        noneQuarrels("other fields", x);
        x.exchange(0, 0, Check.ask(1, 2), Check.answer(1, 0, 0));
        x.exchange(1, 0, Check.ask(3, 4), Check.answer(2, 0, 0));
        quarrels("other numbers of the ask don't keep them apart", x, 0, 1, 1);
    }

    private static void shorterRows() {
        RecordedNeighbours x = new RecordedNeighbours();
        Check.rowOfCodes(x, 0, 0, 0, 1);
        Check.rowOfCodes(x, 0, 0);
        Check.rowOfCodes(x);
        noneQuarrels("one is longer, one is empty", x);
        x.exchange(1, 0, 0, Check.answer(2, 0, 0));
        quarrels("as long", x, 0, 1, 1);
    }

    /** Promise 6: "(the least first one, then the least second one, above it)". */
    private static void leastRowsFirst() {
        RecordedNeighbours x = new RecordedNeighbours();
        Check.rowOfCodes(x, 2, 0);
        Check.rowOfCodes(x, 0, 0, 1, 0);
        Check.rowOfCodes(x, 1, 0);
        Check.rowOfCodes(x, 1, 1);
        Check.rowOfCodes(x, 0, 0, 1, 1);
        Check.rowOfCodes(x, 0, 3);
        quarrels("rows 1 and 4 ahead of 2 and 3, and of the earlier place of 1 and 5", x, 1, 4, 1);
        x.cut(4, 0);
        quarrels("rows 1 and 5", x, 1, 5, 0);
        x.cut(1, 0);
        quarrels("rows 2 and 3", x, 2, 3, 0);
    }

    private static void lastRows() {
        RecordedNeighbours x = Check.withRows(8);
        x.exchange(6, 1, 0, Check.answer(3, 0, 0));
        x.exchange(7, 1, 0, Check.answer(2, 0, 0));
        quarrels("rows 6 and 7", x, 6, 7, 0);
        x.exchange(0, 1, 0, Check.answer(3, 0, 0));
        quarrels("rows 0 and 7", x, 0, 7, 0);
    }

    /** Promise 6: "NONE: none do". */
    private static void noneQuarrel() {
        RecordedNeighbours x = new RecordedNeighbours();
        noneQuarrels("no rows", x);
        Check.rowOfCodes(x, 0, 1, 0, 2);
        noneQuarrels("one row has none to quarrel with, itself neither", x);
        Check.rowOfCodes(x, 0, 1, 0, 2);
        noneQuarrels("two rows that are alike", x);
        noneQuarrels("eight empty rows", Check.withRows(8));
    }

    /** Promise 6: "NONE: .. for another what." */
    private static void anotherWhat() {
        RecordedNeighbours x = new RecordedNeighbours();
        Check.rowOfCodes(x, 0, 1);
        Check.rowOfCodes(x, 0, 2);
        for (int what : Check.outside(3)) {
            Check.due("quarrel " + what, x.quarrel(what), -1);
        }
        quarrels("the others are told", x, 0, 1, 0);
    }
}
