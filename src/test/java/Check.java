/** What the tests share: answers held against the ones that are due. */
final class Check {
    private static int wrong = 0;
    private static int checked = 0;

    private Check() {
    }

    static void due(String call, long got, long want) {
        checked++;
        if (got != want) {
            wrong++;
            System.out.println(call + " answered " + got + ", due is " + want);
        }
    }

    static void due(String call, boolean got, boolean want) {
        due(call, got ? 1 : 0, want ? 1 : 0);
    }

    /** An ask of these two numbers. */
    static int ask(int a, int b) {
        return 100 * a + b;
    }

    /** An answer of this code and these two fields. */
    static int answer(int code, int field0, int field1) {
        return 10000 * code + 100 * field0 + field1;
    }

    /** A new row of exchanges without numbers: verb, code, verb, code, .. */
    static int rowOfCodes(RecordedNeighbours x, int... verbsAndCodes) {
        int row = x.row();
        for (int i = 0; i + 1 < verbsAndCodes.length; i += 2) {
            x.exchange(row, verbsAndCodes[i], 0, answer(verbsAndCodes[i + 1], 0, 0));
        }
        return row;
    }

    static boolean isWrong() {
        return wrong != 0;
    }

    static void end() {
        System.out.println(checked + " answers looked at, " + wrong + " not as due");
        if (wrong != 0) {
            System.exit(1);
        }
    }
}
