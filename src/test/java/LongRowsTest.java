import java.util.Arrays;
import java.util.Random;

/** Promises 9 and 10 with rows too long for the plain model, held against a walk in the document's order. */
public final class LongRowsTest {
    private static final int ROUNDS = 1500;
    private static final int[] FOUND = new int[6];

    public static void main(String[] args) {
        for (int seed = 0; seed < ROUNDS && !Check.isWrong(); seed++) {
            round(seed, new Random(seed));
        }
        askedAtEachExchange();
        for (int states = 1; states <= 4; states++) {
            Check.due("machines of " + states + " states came", FOUND[states + 1] >= ROUNDS / 20, true);
        }
        Check.due("rows without a machine came", FOUND[0] >= ROUNDS / 20, true);
        Check.end();
    }

    /** A helper of at most five states, whose codes are seldom other than 0, and at times answers amiss. */
    private static void round(int seed, Random random) {
        int states = 1 + random.nextInt(5);
        int seldom = 1 + random.nextInt(12);
        int amiss = random.nextBoolean() ? 0 : 20 + random.nextInt(60);
        int[] targets = new int[states * 3];
        int[] moveCodes = new int[states * 3];
        for (int move = 0; move < states * 3; move++) {
            targets[move] = random.nextInt(states);
            moveCodes[move] = random.nextInt(seldom) == 0 ? 1 + random.nextInt(3) : 0;
        }
        int usedVerbs = 1 + random.nextInt(3);
        int rows = 1 + random.nextInt(8);
        int[][] verbs = new int[rows][];
        int[][] codes = new int[rows][];
        for (int row = 0; row < rows; row++) {
            int length = random.nextInt(3) == 0 ? random.nextInt(13) : 12;
            verbs[row] = new int[length];
            codes[row] = new int[length];
            int state = 0;
            for (int place = 0; place < length; place++) {
                int verb = random.nextInt(usedVerbs);
                int move = state * 3 + verb;
                verbs[row][place] = verb;
                codes[row][place] = amiss != 0 && random.nextInt(amiss) == 0 ? random.nextInt(4) : moveCodes[move];
                state = targets[move];
            }
        }
        compare("seed " + seed, verbs, codes);
    }

    private static void compare(String name, int[][] verbs, int[][] codes) {
        RecordedNeighbours x = new RecordedNeighbours();
        for (int row = 0; row < verbs.length; row++) {
            x.row();
            for (int place = 0; place < verbs[row].length; place++) {
                x.exchange(row, verbs[row][place], 0, Check.answer(codes[row][place], 0, 0));
            }
        }
        if (x.count(1) > 0) {
            WalkedMachine walked = new WalkedMachine(verbs, codes);
            FOUND[walked.states() + 1]++;
            compareMachines(name, x, walked);
        }
    }

    private static void compareMachines(String name, RecordedNeighbours x, WalkedMachine walked) {
        Check.due(name + ": states", x.states(), walked.states());
        for (int state = 0; state < 4; state++) {
            for (int verb = 0; verb < 3; verb++) {
                String from = name + ": from " + state + " by " + verb;
                Check.due(from, x.leads(state, verb, 0), walked.leads(state, verb, 0));
                Check.due(from + " the code", x.leads(state, verb, 1), walked.leads(state, verb, 1));
            }
        }
    }

    /** One object is asked after each exchange: what it told ahead must not come into what it tells next. */
    private static void askedAtEachExchange() {
        RecordedNeighbours x = Check.withRows(8);
        int[][] verbs = new int[8][0];
        int[][] codes = new int[8][0];
        int[] states = new int[8];
        for (int place = 0; place < 12; place++) {
            for (int row = 0; row < 8; row++) {
                int verb = (row >> place % 3 & 1) + (place + row) % 2;
                int code = states[row] == 3 && verb != 1 ? 1 + verb : 0;
                states[row] = (states[row] + 1 + verb % 2) % 4;
                x.exchange(row, verb, 0, Check.answer(code, 0, 0));
                verbs[row] = Arrays.copyOf(verbs[row], place + 1);
                codes[row] = Arrays.copyOf(codes[row], place + 1);
                verbs[row][place] = verb;
                codes[row][place] = code;
                compareMachines("row " + row + " to " + place, x, new WalkedMachine(verbs, codes));
            }
        }
        Check.due("at last", x.states(), 4);
    }
}
