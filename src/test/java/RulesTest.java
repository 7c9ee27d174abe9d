/** Promises 7 (rule) and 8 (by). */
public final class RulesTest {
    public static void main(String[] args) {
        constant();
        echoes();
        counted();
        kept();
        keptNeedsOneAhead();
        tableAndVaries();
        firstThatHolds();
        verbsAndFieldsApart();
        noSuchRule();
        Check.end();
    }

    private static void ruleIs(String name, RecordedNeighbours x, int verb, int field, int rule, int by) {
        Check.due(name + ": rule", x.rule(verb, field), rule);
        Check.due(name + ": by", x.by(verb, field), by);
    }

    /** An exchange of verb 0 whose field 1 is this number. */
    private static void hear(RecordedNeighbours x, int row, int a, int b, int field1) {
        x.exchange(row, 0, Check.ask(a, b), Check.answer(0, 0, field1));
    }

    private static RecordedNeighbours withRows(int rows) {
        RecordedNeighbours x = new RecordedNeighbours();
        for (int i = 0; i < rows; i++) {
            x.row();
        }
        return x;
    }

    private static void constant() {
        RecordedNeighbours x = withRows(2);
        hear(x, 0, 3, 4, 7);
        hear(x, 1, 50, 60, 7);
        ruleIs("constant", x, 0, 1, 0, 7);
        ruleIs("constant 0", x, 0, 0, 0, 0);
    }

    private static void echoes() {
        RecordedNeighbours x = withRows(2);
        hear(x, 0, 10, 4, 7);
        hear(x, 1, 99, 60, 96);
        ruleIs("echo of a, c below 0", x, 0, 1, 1, -3);
        x = withRows(2);
        hear(x, 0, 10, 99, 0);
        hear(x, 1, 10, 99, 0);
        hear(x, 1, 12, 98, 0);
        ruleIs("constant ahead of echoes", x, 0, 1, 0, 0);
        x = withRows(1);
        hear(x, 0, 10, 0, 99);
        hear(x, 0, 11, 0, 99);
        hear(x, 0, 11, 0, 99);
        ruleIs("c 99", x, 0, 1, 0, 99);
        x = withRows(1);
        hear(x, 0, 10, 90, 1);
        hear(x, 0, 12, 91, 2);
        ruleIs("echo of b, c far below 0", x, 0, 1, 2, -89);
        x = withRows(1);
        hear(x, 0, 5, 15, 6);
        hear(x, 0, 6, 16, 7);
        ruleIs("both echoes: a's comes first", x, 0, 1, 1, 1);
    }

    private static void counted() {
        RecordedNeighbours x = withRows(2);
        hear(x, 0, 5, 5, 30);
        x.exchange(0, 1, 0, 0);
        hear(x, 0, 5, 5, 31);
        x.exchange(0, 2, 0, 0);
        hear(x, 0, 5, 5, 32);
        ruleIs("count of this verb alone", x, 0, 1, 3, 30);
        hear(x, 1, 5, 5, 30);
        ruleIs("count begins anew in a row", x, 0, 1, 3, 30);
        hear(x, 1, 5, 5, 33);
        ruleIs("broken count", x, 0, 1, 6, -1000);
    }

    private static void kept() {
        RecordedNeighbours x = withRows(2);
        x.exchange(0, 1, Check.ask(4, 20), 0);
        x.exchange(0, 1, Check.ask(4, 40), 0);
        x.exchange(0, 2, Check.ask(8, 7), 0);
        hear(x, 0, 4, 1, 38);
        hear(x, 0, 8, 9, 5);
        hear(x, 0, 8, 3, 7);
        ruleIs("latest of any verb with the same a", x, 0, 1, 4, -2);
        hear(x, 0, 50, 50, 0);
        ruleIs("none ahead is 0, not c", x, 0, 1, 4, -2);
        hear(x, 1, 4, 77, 0);
        ruleIs("rows begin apart", x, 0, 1, 4, -2);
        hear(x, 1, 5, 77, 98);
        ruleIs("none ahead and not 0", x, 0, 1, 5, -1000);
    }

    private static void keptNeedsOneAhead() {
        RecordedNeighbours x = withRows(2);
        hear(x, 0, 1, 9, 0);
        hear(x, 1, 1, 8, 0);
        ruleIs("all 0 is constant", x, 0, 1, 0, 0);
        x = withRows(3);
        x.exchange(0, 1, Check.ask(1, 1), Check.answer(0, 4, 0));
        x.exchange(1, 1, Check.ask(2, 1), Check.answer(0, 7, 0));
        x.exchange(2, 1, Check.ask(4, 2), Check.answer(0, 0, 0));
        ruleIs("no one ahead anywhere", x, 1, 0, 5, -1000);
        x = withRows(1);
        x.exchange(0, 0, Check.ask(3, 9), Check.answer(0, 0, 0));
        x.exchange(0, 0, Check.ask(3, 8), Check.answer(0, 9, 0));
        x.exchange(0, 0, Check.ask(4, 8), Check.answer(0, 0, 0));
        ruleIs("its own b is not ahead of it", x, 0, 0, 4, 0);
    }

    private static void tableAndVaries() {
        RecordedNeighbours x = withRows(2);
        hear(x, 0, 1, 2, 30);
        hear(x, 0, 2, 2, 10);
        hear(x, 1, 1, 3, 90);
        hear(x, 1, 1, 2, 30);
        ruleIs("table", x, 0, 1, 5, -1000);
        x.exchange(1, 1, Check.ask(1, 2), Check.answer(0, 0, 5));
        ruleIs("another verb is another ask", x, 0, 1, 5, -1000);
        hear(x, 1, 2, 2, 11);
        ruleIs("varies", x, 0, 1, 6, -1000);
        x.cut(1, 3);
        ruleIs("table behind a cut", x, 0, 1, 5, -1000);
    }

    private static void firstThatHolds() {
        RecordedNeighbours x = withRows(1);
        hear(x, 0, 3, 5, 9);
        hear(x, 0, 4, 6, 10);
        hear(x, 0, 5, 7, 11);
        ruleIs("a, b and count", x, 0, 1, 1, 6);
        hear(x, 0, 9, 8, 12);
        ruleIs("b and count", x, 0, 1, 2, 4);
        hear(x, 0, 9, 0, 13);
        ruleIs("count", x, 0, 1, 3, 9);
        hear(x, 0, 9, 1, 13);
        ruleIs("table", x, 0, 1, 5, -1000);
    }

    private static void verbsAndFieldsApart() {
        RecordedNeighbours x = withRows(1);
        x.exchange(0, 0, Check.ask(1, 2), Check.answer(0, 1, 2));
        x.exchange(0, 0, Check.ask(5, 9), Check.answer(0, 5, 9));
        x.exchange(0, 2, Check.ask(5, 9), Check.answer(0, 44, 33));
        ruleIs("field 0", x, 0, 0, 1, 0);
        ruleIs("field 1", x, 0, 1, 2, 0);
        ruleIs("verb 2, field 0", x, 2, 0, 0, 44);
        ruleIs("verb 2, field 1", x, 2, 1, 0, 33);
    }

    private static void noSuchRule() {
        RecordedNeighbours x = withRows(1);
        ruleIs("no exchanges", x, 0, 0, -1, -1000);
        x.exchange(0, 1, 0, 0);
        ruleIs("a verb without exchanges", x, 0, 0, -1, -1000);
        ruleIs("verb 3", x, 3, 0, -1, -1000);
        ruleIs("verb -1", x, -1, 0, -1, -1000);
        ruleIs("field 2", x, 1, 2, -1, -1000);
        ruleIs("field -1", x, 1, -1, -1, -1000);
        ruleIs("far", x, Integer.MIN_VALUE, Integer.MAX_VALUE, -1, -1000);
        ruleIs("there is one", x, 1, 1, 0, 0);
    }
}
