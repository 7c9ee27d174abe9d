/** Promises 7 (rule) and 8 (by). */
public final class RulesTest {
    public static void main(String[] args) {
        oneExchangeIsConstant();
        constant();
        echoOfA();
        echoOfB();
        counted();
        countOfAFullRow();
        countInEachRowAnew();
        keptIsTheLatestOfTheSameA();
        keptOfAnyVerb();
        keptIsZeroWhereThereIsNone();
        keptIsNotCWhereThereIsNone();
        keptInEachRowAnew();
        keptNeedsOneAhead();
        leastAndGreatestC();
        tableOfAlikeAsks();
        varies();
        variesOfEachVerbAndField();
        firstThatHolds();
        countAheadOfKept();
        verbsAndFieldsApart();
        verbWithoutExchanges();
        rulesBehindACut();
        noSuchVerbOrField();
        rulesWithoutC();
        Check.end();
    }

    private static void ruleIs(String name, RecordedNeighbours x, int verb, int field, int rule, int by) {
        Check.due(name + ": rule", x.rule(verb, field), rule);
        Check.due(name + ": by", x.by(verb, field), by);
    }

    private static void rule1Is(String name, RecordedNeighbours x, int rule, int by) {
        ruleIs(name, x, 0, 1, rule, by);
    }

    /** An exchange of verb 0 whose field 1 is this number. */
    private static void hear(RecordedNeighbours x, int row, int a, int b, int field1) {
        x.exchange(row, 0, Check.ask(a, b), Check.answer(0, 0, field1));
    }

    /** An exchange of another verb, that only KEPT looks at. */
    private static void pass(RecordedNeighbours x, int row, int verb, int a, int b) {
        x.exchange(row, verb, Check.ask(a, b), 0);
    }

    private static void oneExchangeIsConstant() {
        RecordedNeighbours x = Check.withRows(1);
        x.exchange(0, 2, Check.ask(7, 9), Check.answer(3, 7, 9));
        ruleIs("its a", x, 2, 0, 0, 7);
        ruleIs("its b", x, 2, 1, 0, 9);
    }

    /** Terms 2: "0 CONSTANT: it is c". */
    private static void constant() {
        RecordedNeighbours x = Check.withRows(2);
        hear(x, 0, 3, 4, 7);
        hear(x, 1, 50, 60, 7);
        rule1Is("constant", x, 0, 7);
        ruleIs("constant 0", x, 0, 0, 0, 0);
        x = Check.withRows(1);
        hear(x, 0, 1, 1, 99);
        hear(x, 0, 1, 1, 99);
        rule1Is("constant 99", x, 0, 99);
    }

    /** Terms 2: "1 ECHO of a: it is a and c". */
    private static void echoOfA() {
        RecordedNeighbours x = Check.withRows(2);
        hear(x, 0, 10, 4, 7);
        hear(x, 1, 99, 60, 96);
        rule1Is("c below 0", x, 1, -3);
        x = Check.withRows(2);
        hear(x, 0, 10, 4, 10);
        hear(x, 1, 20, 60, 20);
        rule1Is("c is 0", x, 1, 0);
    }

    /** Terms 2: "2 ECHO of b: b and c". */
    private static void echoOfB() {
        RecordedNeighbours x = Check.withRows(1);
        hear(x, 0, 10, 90, 1);
        hear(x, 0, 12, 91, 2);
        rule1Is("c far below 0", x, 2, -89);
        x = Check.withRows(1);
        hear(x, 0, 10, 50, 50);
        hear(x, 0, 12, 40, 40);
        rule1Is("c is 0", x, 2, 0);
    }

    /** Terms 2: "3 COUNT: how many EXCHANGES of this VERB its ROW had ahead of this one, and c". */
    private static void counted() {
        RecordedNeighbours x = Check.withRows(1);
        pass(x, 0, 1, 0, 0);
        hear(x, 0, 5, 5, 30);
        pass(x, 0, 1, 0, 0);
        hear(x, 0, 5, 5, 31);
        pass(x, 0, 2, 0, 0);
        hear(x, 0, 5, 5, 32);
        rule1Is("of this verb alone", x, 3, 30);
        hear(x, 0, 5, 5, 34);
        rule1Is("broken count", x, 6, -1000);
    }

    private static void countOfAFullRow() {
        RecordedNeighbours x = Check.withRows(1);
        for (int place = 0; place < 12; place++) {
            x.exchange(0, 2, 0, Check.answer(0, 88 + place, place));
        }
        ruleIs("up to 99", x, 2, 0, 3, 88);
        ruleIs("from 0 on", x, 2, 1, 3, 0);
    }

    /** Terms 1: "ROWS begin apart: nothing of one is known in another." */
    private static void countInEachRowAnew() {
        RecordedNeighbours x = Check.withRows(3);
        hear(x, 0, 5, 5, 30);
        hear(x, 0, 5, 5, 31);
        hear(x, 2, 5, 5, 30);
        rule1Is("begins anew", x, 3, 30);
        hear(x, 1, 5, 5, 32);
        rule1Is("does not go on", x, 6, -1000);
    }

    /** Terms 2: "4 KEPT: the b of the latest EXCHANGE ahead of this one in its ROW that had the same a .., and c". */
    private static void keptIsTheLatestOfTheSameA() {
        RecordedNeighbours x = Check.withRows(1);
        hear(x, 0, 4, 20, 0);
        hear(x, 0, 4, 40, 18);
        hear(x, 0, 8, 70, 0);
        hear(x, 0, 4, 1, 38);
        hear(x, 0, 8, 9, 68);
        hear(x, 0, 8, 3, 7);
        rule1Is("c below 0", x, 4, -2);
        hear(x, 0, 4, 3, 18);
        rule1Is("an earlier one is not the latest", x, 5, -1000);
        x = Check.withRows(1);
        hear(x, 0, 3, 9, 0);
        hear(x, 0, 3, 8, 9);
        hear(x, 0, 4, 8, 0);
        rule1Is("its own b is not ahead of it", x, 4, 0);
    }

    /** Terms 2: "(of any VERB)". */
    private static void keptOfAnyVerb() {
        RecordedNeighbours x = Check.withRows(2);
        pass(x, 0, 1, 4, 20);
        hear(x, 0, 4, 50, 23);
        pass(x, 0, 2, 4, 30);
        hear(x, 0, 4, 50, 33);
        hear(x, 0, 4, 50, 53);
        rule1Is("verbs 1, 2 and its own", x, 4, 3);
    }

    /** Terms 2: "where there is none 0". */
    private static void keptIsZeroWhereThereIsNone() {
        RecordedNeighbours x = Check.withRows(2);
        pass(x, 0, 1, 4, 40);
        hear(x, 0, 4, 1, 45);
        hear(x, 0, 4, 9, 6);
        rule1Is("each has one ahead", x, 4, 5);
        hear(x, 0, 50, 50, 0);
        rule1Is("none ahead: 0", x, 4, 5);
        hear(x, 1, 51, 50, 1);
        rule1Is("none ahead: 1", x, 5, -1000);
    }

    /** Terms 2: "(and not c)". */
    private static void keptIsNotCWhereThereIsNone() {
        RecordedNeighbours x = Check.withRows(2);
        pass(x, 0, 1, 4, 40);
        hear(x, 0, 4, 1, 45);
        hear(x, 0, 4, 9, 6);
        hear(x, 1, 50, 50, 5);
        rule1Is("none ahead: c", x, 5, -1000);
    }

    /** Terms 1: "ROWS begin apart: nothing of one is known in another." */
    private static void keptInEachRowAnew() {
        RecordedNeighbours x = Check.withRows(2);
        hear(x, 0, 4, 40, 0);
        hear(x, 0, 4, 9, 40);
        hear(x, 1, 4, 77, 0);
        rule1Is("nothing is kept of another row", x, 4, 0);
        x.cut(1, 0);
        hear(x, 1, 4, 77, 9);
        rule1Is("nor of the row ahead", x, 5, -1000);
    }

    /** Terms 2: "it must have one for some EXCHANGE, else it holds not." */
    private static void keptNeedsOneAhead() {
        RecordedNeighbours x = Check.withRows(3);
        hear(x, 0, 1, 1, 4);
        hear(x, 1, 2, 1, 7);
        hear(x, 2, 4, 2, 0);
        rule1Is("none has one ahead", x, 5, -1000);
        x = Check.withRows(2);
        hear(x, 0, 1, 9, 0);
        hear(x, 1, 1, 8, 0);
        rule1Is("none has one ahead and all are 0", x, 0, 0);
    }

    /** Terms 2: "(c may be below 0.)" As far as numbers 0 .. 99 let it go. */
    private static void leastAndGreatestC() {
        RecordedNeighbours x = Check.withRows(1);
        x.exchange(0, 0, Check.ask(98, 0), Check.answer(0, 0, 98));
        x.exchange(0, 0, Check.ask(99, 1), Check.answer(0, 1, 99));
        ruleIs("least c of a", x, 0, 0, 1, -98);
        ruleIs("a ahead of b", x, 0, 1, 1, 0);
        x.exchange(0, 0, Check.ask(98, 1), Check.answer(0, 0, 99));
        ruleIs("least c of a still", x, 0, 0, 1, -98);
        ruleIs("greatest c of b", x, 0, 1, 2, 98);
        x = Check.withRows(1);
        x.exchange(0, 0, Check.ask(0, 98), Check.answer(0, 98, 0));
        x.exchange(0, 0, Check.ask(1, 98), Check.answer(0, 99, 0));
        x.exchange(0, 0, Check.ask(1, 99), Check.answer(0, 99, 1));
        ruleIs("greatest c of a", x, 0, 0, 1, 98);
        ruleIs("least c of b", x, 0, 1, 2, -98);
        x = Check.withRows(1);
        pass(x, 0, 1, 1, 99);
        hear(x, 0, 1, 98, 1);
        hear(x, 0, 1, 50, 0);
        rule1Is("least c of kept", x, 4, -98);
        x = Check.withRows(1);
        hear(x, 0, 1, 0, 0);
        hear(x, 0, 1, 0, 99);
        rule1Is("greatest c of kept", x, 4, 99);
        x = Check.withRows(1);
        hear(x, 0, 1, 5, 98);
        hear(x, 0, 1, 5, 99);
        rule1Is("greatest c of count", x, 3, 98);
    }

    /** Terms 2: "5 TABLE: alike for alike ASKS (VERB, a, b)". */
    private static void tableOfAlikeAsks() {
        RecordedNeighbours x = Check.withRows(2);
        hear(x, 0, 1, 2, 30);
        hear(x, 0, 2, 2, 10);
        hear(x, 1, 1, 3, 90);
        rule1Is("no alike asks", x, 5, -1000);
        hear(x, 1, 1, 2, 30);
        rule1Is("alike for alike ones", x, 5, -1000);
        x.exchange(1, 1, Check.ask(1, 2), Check.answer(0, 0, 5));
        rule1Is("another verb is another ask", x, 5, -1000);
        hear(x, 1, 2, 1, 44);
        rule1Is("a and b the other way round is another ask", x, 5, -1000);
    }

    /** Terms 2: "6 it VARIES". */
    private static void varies() {
        RecordedNeighbours x = Check.withRows(2);
        hear(x, 0, 1, 2, 30);
        hear(x, 0, 2, 2, 10);
        hear(x, 1, 1, 2, 31);
        rule1Is("the first ask again, in another row", x, 6, -1000);
        x.cut(1, 0);
        hear(x, 0, 2, 2, 12);
        rule1Is("the latest ask again, in its row", x, 6, -1000);
        hear(x, 0, 2, 2, 10);
        rule1Is("and back", x, 6, -1000);
    }

    private static void variesOfEachVerbAndField() {
        for (int verb = 0; verb < 3; verb++) {
            for (int field = 0; field < 2; field++) {
                RecordedNeighbours x = Check.withRows(1);
                int one = field == 0 ? 100 : 1;
                int[] values = {30, 10, 31};
                for (int value : values) {
                    x.exchange(0, verb, Check.ask(1, 2), value * one);
                }
                ruleIs("verb " + verb + ", field " + field, x, verb, field, 6, -1000);
                ruleIs("its other field", x, verb, 1 - field, 0, 0);
            }
        }
    }

    /** Terms 2: "the first that holds in all of them". */
    private static void firstThatHolds() {
        RecordedNeighbours x = Check.withRows(1);
        hear(x, 0, 3, 5, 9);
        rule1Is("all", x, 0, 9);
        hear(x, 0, 4, 6, 10);
        hear(x, 0, 5, 7, 11);
        rule1Is("a, b and count", x, 1, 6);
        hear(x, 0, 9, 8, 12);
        rule1Is("b and count", x, 2, 4);
        hear(x, 0, 9, 0, 13);
        rule1Is("count", x, 3, 9);
        hear(x, 0, 9, 1, 13);
        rule1Is("table", x, 5, -1000);
        hear(x, 0, 9, 1, 14);
        rule1Is("none but the last", x, 6, -1000);
    }

    private static void countAheadOfKept() {
        RecordedNeighbours x = Check.withRows(1);
        hear(x, 0, 1, 0, 0);
        hear(x, 0, 1, 1, 1);
        hear(x, 0, 1, 7, 2);
        rule1Is("count and kept", x, 3, 0);
        hear(x, 0, 1, 7, 8);
        rule1Is("kept and table", x, 4, 1);
        hear(x, 0, 2, 2, 3);
        rule1Is("neither, and one ask has two answers", x, 6, -1000);
    }

    private static void verbsAndFieldsApart() {
        RecordedNeighbours x = Check.withRows(1);
        x.exchange(0, 0, Check.ask(1, 2), Check.answer(0, 1, 2));
        x.exchange(0, 0, Check.ask(5, 9), Check.answer(0, 5, 9));
        x.exchange(0, 2, Check.ask(5, 9), Check.answer(0, 44, 33));
        ruleIs("field 0", x, 0, 0, 1, 0);
        ruleIs("field 1", x, 0, 1, 2, 0);
        ruleIs("verb 2, field 0", x, 2, 0, 0, 44);
        ruleIs("verb 2, field 1", x, 2, 1, 0, 33);
    }

    /** Terms 2: "A VERB without EXCHANGES has no RULES." Promises 7 and 8: "there is none such." */
    private static void verbWithoutExchanges() {
        for (int verb = 0; verb < 3; verb++) {
            RecordedNeighbours x = Check.withRows(2);
            x.exchange(1, verb, 0, 0);
            for (int other = 0; other < 3; other++) {
                boolean has = other == verb;
                ruleIs("verb " + other, x, other, 0, has ? 0 : -1, has ? 0 : -1000);
                ruleIs("verb " + other, x, other, 1, has ? 0 : -1, has ? 0 : -1000);
            }
            x.cut(1, 0);
            ruleIs("its exchange is cut", x, verb, 0, -1, -1000);
        }
        ruleIs("no rows", new RecordedNeighbours(), 0, 0, -1, -1000);
        ruleIs("empty rows", Check.withRows(8), 0, 0, -1, -1000);
    }

    private static void rulesBehindACut() {
        RecordedNeighbours x = Check.withRows(1);
        hear(x, 0, 1, 2, 30);
        hear(x, 0, 4, 7, 10);
        hear(x, 0, 4, 7, 11);
        rule1Is("varies", x, 6, -1000);
        x.cut(0, 2);
        rule1Is("table", x, 5, -1000);
        x.cut(0, 1);
        rule1Is("constant", x, 0, 30);
    }

    /** Promise 7: "NONE: there is none such." Promise 8: "-1000: there is none such." */
    private static void noSuchVerbOrField() {
        RecordedNeighbours x = Check.withRows(1);
        for (int verb = 0; verb < 3; verb++) {
            x.exchange(0, verb, 0, 0);
        }
        for (int verb : Check.outside(3)) {
            ruleIs("verb " + verb, x, verb, 0, -1, -1000);
            ruleIs("verb " + verb, x, verb, 1, -1, -1000);
        }
        for (int field : Check.outside(2)) {
            ruleIs("field " + field, x, 0, field, -1, -1000);
            ruleIs("field " + field, x, 2, field, -1, -1000);
        }
        ruleIs("there is one", x, 2, 1, 0, 0);
    }

    /** Promise 8: "c of that RULE, 0 .. 4." TABLE and VARIES have no c. */
    private static void rulesWithoutC() {
        RecordedNeighbours x = Check.withRows(1);
        x.exchange(0, 1, Check.ask(1, 2), Check.answer(0, 7, 3));
        x.exchange(0, 1, Check.ask(2, 7), Check.answer(0, 1, 3));
        x.exchange(0, 1, Check.ask(2, 7), Check.answer(0, 1, 9));
        ruleIs("table", x, 1, 0, 5, -1000);
        ruleIs("varies", x, 1, 1, 6, -1000);
    }
}
