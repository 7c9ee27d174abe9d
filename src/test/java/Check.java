/** What the tests share: answers held against the ones that are due. */
final class Check {
    private static int wrong = 0;
    private static int checked = 0;

    private Check() {
    }

    static void due(String call, long got, long want) {
        checked++;
        if (got != want) {
            wrong++;
            System.out.println(call + " answered " + got + ", due is " + want);
        }
    }

    static void due(String call, boolean got, boolean want) {
        due(call, got ? 1 : 0, want ? 1 : 0);
    }

    static void due(String call, String got, String want) {
        checked++;
        if (!got.equals(want)) {
            wrong++;
            System.out.println(call + " told\n  " + got + "\n  due is\n  " + want);
        }
    }

    /** An ask of these two numbers. */
    static int ask(int a, int b) {
        return 100 * a + b;
    }

    /** An answer of this code and these two fields. */
    static int answer(int code, int field0, int field1) {
        return 10000 * code + 100 * field0 + field1;
    }

    /**
     * Numbers that are not in 0 .. bound - 1: the ones beside it, the farthest, and some
     * that come back into an array's bounds if they are multiplied by 2, 3, 4, 6 or 12.
     */
    static int[] outside(int bound) {
        return new int[] {Integer.MIN_VALUE, Integer.MIN_VALUE + 1, -1431655765, -1000, -2, -1,
            bound, bound + 1, 357913942, 715827883, 1 << 30, 1431655766, Integer.MAX_VALUE};
    }

    /** A new object with so many rows without exchanges. */
    static RecordedNeighbours withRows(int rows) {
        RecordedNeighbours x = new RecordedNeighbours();
        for (int i = 0; i < rows; i++) {
            x.row();
        }
        return x;
    }

    /** A new row of exchanges without numbers: verb, code, verb, code, .. */
    static int rowOfCodes(RecordedNeighbours x, int... verbsAndCodes) {
        int row = x.row();
        for (int i = 0; i + 1 < verbsAndCodes.length; i += 2) {
            x.exchange(row, verbsAndCodes[i], 0, answer(verbsAndCodes[i + 1], 0, 0));
        }
        return row;
    }

    static boolean isWrong() {
        return wrong != 0;
    }

    static void end() {
        System.out.println(checked + " answers looked at, " + wrong + " not as due");
        if (wrong != 0) {
            System.exit(1);
        }
    }
}
