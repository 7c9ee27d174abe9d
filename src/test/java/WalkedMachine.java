import java.util.Arrays;

/**
 * The machine by a walk through the rows in the document's own order, for rows too long for
 * PlainModel: the first walk that ends well is the one that is told. It works another way
 * than the class, which asks in another order whether a machine is left.
 */
final class WalkedMachine {
    private static final int AGREES = -1;

    private final int[][] verbs;
    private final int[][] codes;
    private final int[] targets = new int[12];
    private final int[] moveCodes = new int[12];
    /** By which moves the first exchange of a move was reached, as a mask. */
    private final int[] movePaths = new int[12];
    private int states;

    WalkedMachine(int[][] verbs, int[][] codes) {
        this.verbs = verbs;
        this.codes = codes;
        for (states = 1; states <= 4; states++) {
            Arrays.fill(targets, -1);
            if (walk(0, 0, 0, 0, 1) == AGREES) {
                return;
            }
        }
        states = -1;
    }

    int states() {
        return states;
    }

    int leads(int state, int verb, int what) {
        int move = state * 3 + verb;
        if (states < 0 || targets[move] < 0) {
            return -1;
        }
        return what == 0 ? targets[move] : moveCodes[move];
    }

    /** AGREES, or the moves that the walk failed by: other moves need not be tried anew. */
    private int walk(int row, int place, int state, int path, int come) {
        if (row == verbs.length) {
            return AGREES;
        }
        if (place == verbs[row].length) {
            return walk(row + 1, 0, 0, 0, come);
        }
        int move = state * 3 + verbs[row][place];
        int code = codes[row][place];
        if (targets[move] >= 0) {
            return moveCodes[move] == code ? walk(row, place + 1, targets[move], path | 1 << move, come)
                    : path | movePaths[move];
        }
        moveCodes[move] = code;
        movePaths[move] = path;
        int own = 1 << move;
        int blamed = 0;
        for (int target = 0; target < states && target <= come; target++) {
            targets[move] = target;
            int failedBy = walk(row, place + 1, target, path | own, Math.max(come, target + 1));
            if (failedBy == AGREES) {
                return AGREES;
            }
            if ((failedBy & own) == 0) {
                targets[move] = -1;
                return failedBy;
            }
            blamed |= failedBy;
        }
        targets[move] = -1;
        return blamed & ~own;
    }
}
