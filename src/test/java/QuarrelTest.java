/** Promise 6 (quarrel). */
public final class QuarrelTest {
    public static void main(String[] args) {
        firstPlaceOfOtherCodes();
        otherVerbsAheadEndIt();
        leastRowsFirst();
        noneQuarrel();
        Check.end();
    }

    private static void quarrels(String name, RecordedNeighbours x, int first, int second, int place) {
        Check.due(name + ": first", x.quarrel(0), first);
        Check.due(name + ": second", x.quarrel(1), second);
        Check.due(name + ": place", x.quarrel(2), place);
        Check.due(name + ": what 3", x.quarrel(3), -1);
        Check.due(name + ": what -1", x.quarrel(-1), -1);
        Check.due(name + ": what least", x.quarrel(Integer.MIN_VALUE), -1);
    }

    private static void firstPlaceOfOtherCodes() {
        RecordedNeighbours x = new RecordedNeighbours();
        Check.rowOfCodes(x, 0, 0, 1, 1, 2, 2, 0, 1);
        Check.rowOfCodes(x, 0, 0, 1, 1, 2, 3, 0, 2);
        quarrels("third place", x, 0, 1, 2);
        Check.due("no machine", x.states(), -1);
        x.cut(1, 2);
        quarrels("cut ahead of it", x, -1, -1, -1);
    }

    private static void otherVerbsAheadEndIt() {
        RecordedNeighbours x = new RecordedNeighbours();
        Check.rowOfCodes(x, 0, 0, 1, 0, 2, 0);
        Check.rowOfCodes(x, 0, 0, 2, 0, 2, 1);
        quarrels("other verbs ahead", x, -1, -1, -1);
        Check.rowOfCodes(x, 1, 0);
        Check.rowOfCodes(x, 2, 1);
        quarrels("other verb at the place", x, -1, -1, -1);
    }

    private static void leastRowsFirst() {
        RecordedNeighbours x = new RecordedNeighbours();
        Check.rowOfCodes(x, 2, 0);
        Check.rowOfCodes(x, 0, 0, 1, 0);
        Check.rowOfCodes(x, 1, 0);
        Check.rowOfCodes(x, 1, 1);
        Check.rowOfCodes(x, 0, 0, 1, 1);
        Check.rowOfCodes(x, 0, 3);
        quarrels("rows 1 and 4 ahead of 2 and 3", x, 1, 4, 1);
        x.cut(4, 0);
        quarrels("rows 1 and 5", x, 1, 5, 0);
        x.cut(1, 0);
        quarrels("rows 2 and 3", x, 2, 3, 0);
    }

    private static void noneQuarrel() {
        RecordedNeighbours x = new RecordedNeighbours();
        quarrels("no rows", x, -1, -1, -1);
        x.row();
        x.row();
        quarrels("empty rows", x, -1, -1, -1);
        x.exchange(0, 0, 1, 5);
        x.exchange(1, 0, 2, 99);
        quarrels("other asks and fields", x, -1, -1, -1);
        x.exchange(0, 0, 1, 0);
        quarrels("one is longer", x, -1, -1, -1);
    }
}
