import java.util.Arrays;

/**
 * Recorded neighbours: rows of asks and answers between a program and a helper,
 * and a stand-in learned from them that answers as the helper did.
 *
 * <p>Asks and answers stay packed as the face hands them over (an ask is
 * 100 a + b, an answer 10000 code + 100 field 0 + field 1).
 */
public final class RecordedNeighbours {
    public static final int NONE = -1;

    private static final int UNSEEN = -2;
    private static final int NO_NUMBER = -1000;

    private static final int ROWS = 8;
    private static final int PLACES = 12;
    private static final int EXCHANGES = ROWS * PLACES;
    private static final int VERBS = 3;
    private static final int CODES = 4;
    private static final int FIELDS = 2;
    private static final int NUMBERS = 100;
    private static final int ASKS = NUMBERS * NUMBERS;
    private static final int ANSWERS = CODES * ASKS;
    private static final int STATES = 4;
    private static final int MOVES = STATES * VERBS;
    private static final int IMAGES = 3;

    private static final int ECHO_A = 1;
    private static final int ECHO_B = 2;
    private static final int COUNT = 3;
    private static final int KEPT = 4;
    private static final int TABLE = 5;
    private static final int VARIES = 6;
    /** The rules 0 .. 4, each a base and c; TABLE and VARIES have no c. */
    private static final int RULES_WITH_C = 5;

    private static final int HELD_UNSEEN = 0;
    private static final int HELD_CODE = 1;
    private static final int HELD_FIELDS = 2;

    private final Image now = new Image();
    private final Image[] images = new Image[IMAGES];
    private final Study ofAll = new Study();
    private final Study ofOthers = new Study();
    private final Run trial = new Run();

    public RecordedNeighbours() {
    }

    public int row() {
        return now.rows.open();
    }

    public int exchange(int row, int verb, int ask, int answer) {
        if (!within(verb, VERBS) || !within(ask, ASKS) || !within(answer, ANSWERS)) {
            return NONE;
        }
        int place = now.rows.append(row, verb, ask, answer);
        if (place != NONE) {
            forgetStudies();
        }
        return place;
    }

    public boolean cut(int row, int n) {
        boolean done = now.rows.shorten(row, n);
        if (done) {
            forgetStudies();
        }
        return done;
    }

    public int tell(int row, int place, int what) {
        Rows rows = now.rows;
        if (!within(place, rows.length(row))) {
            return NONE;
        }
        int ask = rows.askAt(row, place);
        int answer = rows.answerAt(row, place);
        switch (what) {
            case 0: return rows.verbAt(row, place);
            case 1: return ask / NUMBERS;
            case 2: return ask % NUMBERS;
            case 3: return codeOf(answer);
            case 4: return fieldOf(answer, 0);
            case 5: return fieldOf(answer, 1);
            default: return NONE;
        }
    }

    public int quarrel(int what) {
        Rows rows = now.rows;
        for (int first = 0; first < rows.size(); first++) {
            for (int second = first + 1; second < rows.size(); second++) {
                int place = rows.quarrelPlace(first, second);
                if (place != NONE) {
                    return pickOfThree(what, first, second, place);
                }
            }
        }
        return NONE;
    }

    public int rule(int verb, int field) {
        if (!within(verb, VERBS) || !within(field, FIELDS)) {
            return NONE;
        }
        return ofAll.rulesOf(now.rows).kindOf(verb, field);
    }

    public int by(int verb, int field) {
        if (!within(verb, VERBS) || !within(field, FIELDS)) {
            return NO_NUMBER;
        }
        return ofAll.rulesOf(now.rows).offsetOf(verb, field);
    }

    public int states() {
        return ofAll.machineOf(now.rows).size();
    }

    public int leads(int state, int verb, int what) {
        if (!within(state, STATES) || !within(verb, VERBS)) {
            return NONE;
        }
        Machine machine = ofAll.machineOf(now.rows);
        switch (what) {
            case 0: return machine.targetOf(state, verb);
            case 1: return machine.toldBy(state, verb);
            default: return NONE;
        }
    }

    public boolean begin() {
        Machine machine = ofAll.machineOf(now.rows);
        if (!machine.stands()) {
            now.run.stop();
            return false;
        }
        now.run.start(machine, ofAll.rulesOf(now.rows));
        return true;
    }

    public int say(int verb, int ask) {
        if (!now.run.isOn() || !within(verb, VERBS) || !within(ask, ASKS)) {
            return NONE;
        }
        return now.run.answer(verb, ask);
    }

    public int field(int field) {
        if (!now.run.isOn() || !within(field, FIELDS)) {
            return NO_NUMBER;
        }
        return now.run.latestField(field);
    }

    public int ran(int what) {
        Run run = now.run;
        if (!run.isOn()) {
            return NONE;
        }
        return pickOfThree(what, run.state(), run.answered(), run.unseen());
    }

    public int held(int row, int what) {
        return firstDifference(ofAll, row, what);
    }

    public int fresh(int row, int what) {
        if (!now.rows.has(row)) {
            return NONE;
        }
        ofOthers.leaveOut(row);
        return firstDifference(ofOthers, row, what);
    }

    public int count(int what) {
        switch (what) {
            case 0: return now.rows.size();
            case 1: return now.rows.exchanges();
            case 2:
            case 3:
            case 4: return now.rows.exchangesOf(what - 2);
            case 5: return ofAll.rulesOf(now.rows).unlikeAsks();
            default: return NONE;
        }
    }

    public boolean image(int k) {
        if (!within(k, IMAGES)) {
            return false;
        }
        // Made at its first use: most objects never need all images.
        if (images[k] == null) {
            images[k] = new Image();
        }
        images[k].copy(now);
        return true;
    }

    public boolean again(int k) {
        if (!within(k, IMAGES) || images[k] == null) {
            return false;
        }
        now.copy(images[k]);
        forgetStudies();
        return true;
    }

    private void forgetStudies() {
        ofAll.forget();
        ofOthers.forget();
    }

    private int firstDifference(Study study, int row, int what) {
        if (!now.rows.has(row) || !within(what, 2)) {
            return NONE;
        }
        Machine machine = study.machineOf(now.rows);
        if (!machine.stands()) {
            return NONE;
        }
        trial.start(machine, study.rulesOf(now.rows));
        for (int place = 0; place < now.rows.length(row); place++) {
            int difference = differenceAt(row, place);
            if (difference != NONE) {
                return what == 0 ? place : difference;
            }
        }
        return NONE;
    }

    private int differenceAt(int row, int place) {
        Rows rows = now.rows;
        int code = trial.answer(rows.verbAt(row, place), rows.askAt(row, place));
        int answer = rows.answerAt(row, place);
        if (code == UNSEEN) {
            return HELD_UNSEEN;
        }
        if (code != codeOf(answer)) {
            return HELD_CODE;
        }
        for (int field = 0; field < FIELDS; field++) {
            int told = trial.latestField(field);
            if (told != NO_NUMBER && told != fieldOf(answer, field)) {
                return HELD_FIELDS + field;
            }
        }
        return NONE;
    }

    private static boolean within(int value, int bound) {
        return value >= 0 && value < bound;
    }

    private static int pickOfThree(int what, int zeroth, int first, int second) {
        switch (what) {
            case 0: return zeroth;
            case 1: return first;
            case 2: return second;
            default: return NONE;
        }
    }

    private static int codeOf(int answer) {
        return answer / ASKS;
    }

    private static int fieldOf(int answer, int field) {
        return field == 0 ? answer / NUMBERS % NUMBERS : answer % NUMBERS;
    }

    /** The rows that are kept, with their exchanges. */
    private static final class Rows {
        private final int[] lengths = new int[ROWS];
        private final int[] verbs = new int[EXCHANGES];
        private final int[] asks = new int[EXCHANGES];
        private final int[] answers = new int[EXCHANGES];
        private int size;

        int open() {
            if (size >= ROWS) {
                return NONE;
            }
            lengths[size] = 0;
            size++;
            return size - 1;
        }

        int append(int row, int verb, int ask, int answer) {
            if (!has(row) || lengths[row] >= PLACES) {
                return NONE;
            }
            int place = lengths[row];
            int at = row * PLACES + place;
            verbs[at] = verb;
            asks[at] = ask;
            answers[at] = answer;
            lengths[row]++;
            return place;
        }

        boolean shorten(int row, int length) {
            if (!has(row) || length < 0 || length > lengths[row]) {
                return false;
            }
            lengths[row] = length;
            return true;
        }

        boolean has(int row) {
            return row >= 0 && row < size;
        }

        int size() {
            return size;
        }

        int length(int row) {
            return row >= 0 && row < size ? lengths[row] : 0;
        }

        int verbAt(int row, int place) {
            return verbs[row * PLACES + place];
        }

        int askAt(int row, int place) {
            return asks[row * PLACES + place];
        }

        int answerAt(int row, int place) {
            return answers[row * PLACES + place];
        }

        int exchanges() {
            int sum = 0;
            for (int row = 0; row < size; row++) {
                sum += lengths[row];
            }
            return sum;
        }

        int exchangesOf(int verb) {
            int sum = 0;
            for (int row = 0; row < size; row++) {
                for (int place = 0; place < lengths[row]; place++) {
                    sum += verbAt(row, place) == verb ? 1 : 0;
                }
            }
            return sum;
        }

        int quarrelPlace(int first, int second) {
            int shared = Math.min(lengths[first], lengths[second]);
            for (int place = 0; place < shared; place++) {
                if (verbAt(first, place) != verbAt(second, place)) {
                    return NONE;
                }
                if (codeOf(answerAt(first, place)) != codeOf(answerAt(second, place))) {
                    return place;
                }
            }
            return NONE;
        }

        void copy(Rows from) {
            System.arraycopy(from.lengths, 0, lengths, 0, ROWS);
            System.arraycopy(from.verbs, 0, verbs, 0, EXCHANGES);
            System.arraycopy(from.asks, 0, asks, 0, EXCHANGES);
            System.arraycopy(from.answers, 0, answers, 0, EXCHANGES);
            size = from.size;
        }
    }

    /** What COUNT and KEPT need of the asks ahead, in a row or in a run. */
    private static final class Memory {
        private final int[] counts = new int[VERBS];
        private final int[] latest = new int[NUMBERS];

        void clear() {
            Arrays.fill(counts, 0);
            Arrays.fill(latest, NONE);
        }

        void note(int verb, int ask) {
            counts[verb]++;
            latest[ask / NUMBERS] = ask % NUMBERS;
        }

        /** The number that c is added to; NONE where KEPT has no exchange ahead. */
        int baseOf(int kind, int verb, int ask) {
            switch (kind) {
                case ECHO_A: return ask / NUMBERS;
                case ECHO_B: return ask % NUMBERS;
                case COUNT: return counts[verb];
                case KEPT: return latest[ask / NUMBERS];
                default: return 0;
            }
        }

        void copy(Memory from) {
            System.arraycopy(from.counts, 0, counts, 0, VERBS);
            System.arraycopy(from.latest, 0, latest, 0, NUMBERS);
        }
    }

    /** The rule of each verb and field, and every unlike ask with its first answer. */
    private static final class Rules {
        private final int[] kinds = new int[VERBS * FIELDS];
        private final int[] offsets = new int[VERBS * FIELDS];
        private final int[] tableAsks = new int[EXCHANGES];
        private final int[] tableAnswers = new int[EXCHANGES];
        private int unlike;

        void clear() {
            Arrays.fill(kinds, NONE);
            Arrays.fill(offsets, NO_NUMBER);
            unlike = 0;
        }

        void decide(int verb, int field, int kind, int offset) {
            kinds[verb * FIELDS + field] = kind;
            offsets[verb * FIELDS + field] = offset;
        }

        /** Keeps an ask that is new to the table; answers the first answer that it had. */
        int firstAnswer(int verb, int ask, int answer) {
            int at = find(verb, ask);
            if (at != NONE) {
                return tableAnswers[at];
            }
            if (unlike < EXCHANGES) {
                tableAsks[unlike] = verb * ASKS + ask;
                tableAnswers[unlike] = answer;
                unlike++;
            }
            return answer;
        }

        int kindOf(int verb, int field) {
            return kinds[verb * FIELDS + field];
        }

        int offsetOf(int verb, int field) {
            return offsets[verb * FIELDS + field];
        }

        int unlikeAsks() {
            return unlike;
        }

        boolean lacks(int verb, int ask) {
            boolean needed = kindOf(verb, 0) == TABLE || kindOf(verb, 1) == TABLE;
            return needed && find(verb, ask) == NONE;
        }

        int foretell(int verb, int field, int ask, Memory memory) {
            int kind = kindOf(verb, field);
            if (kind == TABLE) {
                int at = find(verb, ask);
                return at == NONE ? NO_NUMBER : fieldOf(tableAnswers[at], field);
            }
            if (kind == NONE || kind == VARIES) {
                return NO_NUMBER;
            }
            int base = memory.baseOf(kind, verb, ask);
            return base == NONE ? 0 : base + offsetOf(verb, field);
        }

        void copy(Rules from) {
            System.arraycopy(from.kinds, 0, kinds, 0, VERBS * FIELDS);
            System.arraycopy(from.offsets, 0, offsets, 0, VERBS * FIELDS);
            System.arraycopy(from.tableAsks, 0, tableAsks, 0, EXCHANGES);
            System.arraycopy(from.tableAnswers, 0, tableAnswers, 0, EXCHANGES);
            unlike = from.unlike;
        }

        private int find(int verb, int ask) {
            int wanted = verb * ASKS + ask;
            for (int at = 0; at < unlike; at++) {
                if (tableAsks[at] == wanted) {
                    return at;
                }
            }
            return NONE;
        }
    }

    /** Learns rules: every rule is a candidate until an exchange breaks it. */
    private static final class RuleLearner {
        // No c: numbers and counts stay below 100, and so does every c.
        private static final int OPEN = 1000;
        private static final int BROKEN = 1001;

        private final Memory memory = new Memory();
        private final int[] candidates = new int[VERBS * FIELDS * RULES_WITH_C];
        private final int[] tables = new int[VERBS * FIELDS];

        void learn(Rows rows, int without, Rules rules) {
            Arrays.fill(candidates, OPEN);
            Arrays.fill(tables, OPEN);
            rules.clear();
            for (int row = 0; row < rows.size(); row++) {
                if (row != without) {
                    hearRow(rows, row, rules);
                }
            }
            for (int verb = 0; verb < VERBS; verb++) {
                for (int field = 0; field < FIELDS; field++) {
                    decideRule(verb, field, rules);
                }
            }
        }

        private void hearRow(Rows rows, int row, Rules rules) {
            memory.clear();
            for (int place = 0; place < rows.length(row); place++) {
                int verb = rows.verbAt(row, place);
                int ask = rows.askAt(row, place);
                int answer = rows.answerAt(row, place);
                int firstAnswer = rules.firstAnswer(verb, ask, answer);
                for (int field = 0; field < FIELDS; field++) {
                    hearField(verb, field, ask, fieldOf(answer, field));
                    if (fieldOf(firstAnswer, field) != fieldOf(answer, field)) {
                        tables[verb * FIELDS + field] = BROKEN;
                    }
                }
                memory.note(verb, ask);
            }
        }

        private void hearField(int verb, int field, int ask, int value) {
            int firstCandidate = (verb * FIELDS + field) * RULES_WITH_C;
            for (int kind = 0; kind < RULES_WITH_C; kind++) {
                weigh(firstCandidate + kind, memory.baseOf(kind, verb, ask), value);
            }
        }

        private void weigh(int candidate, int base, int value) {
            int offset = candidates[candidate];
            if (offset == BROKEN) {
                return;
            }
            if (base == NONE) {
                candidates[candidate] = value == 0 ? offset : BROKEN;
            } else if (offset == OPEN) {
                candidates[candidate] = value - base;
            } else if (offset != value - base) {
                candidates[candidate] = BROKEN;
            }
        }

        private void decideRule(int verb, int field, Rules rules) {
            int slot = verb * FIELDS + field;
            int firstCandidate = slot * RULES_WITH_C;
            // Any exchange of the verb gives CONSTANT a c or breaks it.
            if (candidates[firstCandidate] == OPEN) {
                return;
            }
            for (int kind = 0; kind < RULES_WITH_C; kind++) {
                int offset = candidates[firstCandidate + kind];
                if (offset != OPEN && offset != BROKEN) {
                    rules.decide(verb, field, kind, offset);
                    return;
                }
            }
            rules.decide(verb, field, tables[slot] == BROKEN ? VARIES : TABLE, NO_NUMBER);
        }
    }

    /** The machine of states; its size is 0 without exchanges and NONE if none agrees. */
    private static final class Machine {
        private final int[] targets = new int[MOVES];
        private final int[] codes = new int[MOVES];
        private int size;

        void clear(int newSize) {
            Arrays.fill(targets, NONE);
            Arrays.fill(codes, NONE);
            size = newSize;
        }

        void setMove(int move, int target, int code) {
            targets[move] = target;
            codes[move] = code;
        }

        int size() {
            return size;
        }

        boolean stands() {
            return size > 0;
        }

        int targetOf(int state, int verb) {
            return targets[state * VERBS + verb];
        }

        int toldBy(int state, int verb) {
            return codes[state * VERBS + verb];
        }

        void copy(Machine from) {
            System.arraycopy(from.targets, 0, targets, 0, MOVES);
            System.arraycopy(from.codes, 0, codes, 0, MOVES);
            size = from.size;
        }
    }

    /**
     * Finds the machine. Rows that begin with the same verbs share the nodes of a
     * tree, numbered as they come row by row. A node arrives at a move (a state and a
     * verb) when its parent's state is known, and waits there until the move has a
     * target; the nodes that arrive at one move must have one code.
     *
     * <p>Whether a machine is left is asked in an order of its own, the move that is
     * likeliest to fail first, for all rows at once; in the document's order, rows
     * whose codes seldom differ would take millions of steps. Only the machine that is
     * told is settled in the document's order.
     *
     * <p>What fails answers the moves that it failed by, as a mask: a move that is not
     * among them need not be tried with other states.
     */
    private static final class MachineSearch {
        private static final int NODES = EXCHANGES + 1;
        /** No mask of moves is below 0. */
        private static final int AGREES = -1;
        private static final int WEIGHT = 1000000;

        private final int[] parents = new int[NODES];
        private final int[] verbs = new int[NODES];
        private final int[] codes = new int[NODES];
        private final int[] children = new int[NODES * VERBS];
        private final int[] codeCounts = new int[VERBS * CODES];
        private final int[] weights = new int[NODES];
        private final int[] states = new int[NODES];
        private final int[] paths = new int[NODES];
        private final int[] moves = new int[NODES];
        private final int[] arrivals = new int[NODES];
        private final int[] targets = new int[MOVES];
        private final int[] arrivedAt = new int[MOVES * NODES];
        private final int[] arrivedCounts = new int[MOVES];
        private final int[] moveWeights = new int[MOVES];
        private int nodes;
        private int arrived;
        private int allowed;

        void search(Rows rows, int without, Machine machine) {
            startTree();
            boolean quarrelled = false;
            for (int row = 0; row < rows.size() && !quarrelled; row++) {
                quarrelled = row != without && !plantRow(rows, row);
            }
            machine.clear(nodes > 1 ? NONE : 0);
            if (nodes == 1 || quarrelled) {
                return;
            }
            weighNodes();
            startMoves();
            for (int size = 1; size <= STATES; size++) {
                allowed = size;
                if (solve(1, 0) == AGREES) {
                    settleInOrder();
                    hand(machine);
                    return;
                }
            }
        }

        private void startTree() {
            nodes = 1;
            Arrays.fill(children, NONE);
        }

        /** Whether it agrees with the rows planted ahead of it. */
        private boolean plantRow(Rows rows, int row) {
            int node = 0;
            for (int place = 0; place < rows.length(row); place++) {
                int code = codeOf(rows.answerAt(row, place));
                node = childOf(node, rows.verbAt(row, place), code);
                if (codes[node] != code) {
                    return false;
                }
            }
            return true;
        }

        private int childOf(int node, int verb, int code) {
            int slot = node * VERBS + verb;
            if (children[slot] != NONE) {
                return children[slot];
            }
            // Never so: there is a node for each exchange that the rows can have.
            if (nodes >= NODES) {
                return 0;
            }
            parents[nodes] = node;
            verbs[nodes] = verb;
            codes[nodes] = code;
            children[slot] = nodes;
            nodes++;
            return nodes - 1;
        }

        /** A node weighs by how rare the codes below it are, and how near. */
        private void weighNodes() {
            Arrays.fill(codeCounts, 0);
            Arrays.fill(weights, 0);
            for (int node = 1; node < nodes; node++) {
                codeCounts[verbs[node] * CODES + codes[node]]++;
            }
            for (int node = nodes - 1; node > 0; node--) {
                weights[parents[node]] += rarity(verbs[node], codes[node]) + weights[node] * 2 / 3;
            }
        }

        /** 0 only for a verb that has but one code: it can make nothing fail. */
        private int rarity(int verb, int code) {
            int ofVerb = 0;
            for (int any = 0; any < CODES; any++) {
                ofVerb += codeCounts[verb * CODES + any];
            }
            int ofCode = codeCounts[verb * CODES + code];
            return ofCode > 0 && ofVerb > 0 ? WEIGHT / ofCode - WEIGHT / ofVerb : 0;
        }

        private void startMoves() {
            Arrays.fill(targets, NONE);
            Arrays.fill(arrivedCounts, 0);
            Arrays.fill(moveWeights, 0);
            arrived = 0;
            enter(0, 0, 0);
        }

        /** With the moves settled so far and as many states come: AGREES, or the moves it failed by. */
        private int solve(int come, int depth) {
            int move = heaviestOpenMove();
            if (move == NONE) {
                return AGREES;
            }
            // Each level settles another move, so this depth is never passed.
            if (depth >= MOVES) {
                return 0;
            }
            int own = 1 << move;
            int mark = arrived;
            int blamed = 0;
            // States that have not come are alike: the least of them is tried for all.
            for (int target = 0; target < allowed && target <= come; target++) {
                int failedBy = settle(move, target);
                if (failedBy == AGREES) {
                    failedBy = solve(Math.max(come, target + 1), depth + 1);
                }
                unsettle(move, mark);
                if (failedBy == AGREES || (failedBy & own) == 0) {
                    return failedBy;
                }
                blamed |= failedBy;
            }
            return blamed & ~own;
        }

        /** NONE if nothing can fail any more, whatever targets the open moves get. */
        private int heaviestOpenMove() {
            int heaviest = NONE;
            int most = 0;
            for (int move = 0; move < MOVES; move++) {
                if (targets[move] == NONE && moveWeights[move] > most) {
                    heaviest = move;
                    most = moveWeights[move];
                }
            }
            return heaviest;
        }

        private void settleInOrder() {
            int come = 1;
            for (int node = 1; node < nodes; node++) {
                int move = states[parents[node]] * VERBS + verbs[node];
                boolean settled = targets[move] != NONE;
                for (int target = 0; target < allowed && target <= come && !settled; target++) {
                    int mark = arrived;
                    settled = settle(move, target) == AGREES
                            && solve(Math.max(come, target + 1), 0) == AGREES;
                    if (!settled) {
                        unsettle(move, mark);
                    }
                }
                come = Math.max(come, targets[move] + 1);
            }
        }

        /** All nodes that wait for this move go on as far as settled moves lead them. */
        private int settle(int move, int target) {
            int firstNew = arrived;
            int waiting = arrivedCounts[move];
            int failedBy = AGREES;
            targets[move] = target;
            for (int at = 0; at < waiting && failedBy == AGREES; at++) {
                int node = arrivedAt[move * NODES + at];
                failedBy = enter(node, target, paths[parents[node]] | 1 << move);
            }
            // More may arrive meanwhile, but no node twice.
            for (int at = firstNew; at < arrived && failedBy == AGREES; at++) {
                int node = arrivals[at];
                int by = moves[node];
                if (targets[by] != NONE) {
                    failedBy = enter(node, targets[by], paths[parents[node]] | 1 << by);
                }
            }
            return failedBy;
        }

        /** A node's state is known: its children arrive at their moves. */
        private int enter(int node, int state, int path) {
            states[node] = state;
            paths[node] = path;
            for (int verb = 0; verb < VERBS; verb++) {
                int child = children[node * VERBS + verb];
                if (child == NONE || arrived >= NODES) {
                    continue;
                }
                int move = state * VERBS + verb;
                int first = arrivedAt[move * NODES];
                if (arrivedCounts[move] > 0 && codes[first] != codes[child]) {
                    return path | paths[parents[first]];
                }
                arrivedAt[move * NODES + arrivedCounts[move]] = child;
                arrivedCounts[move]++;
                moveWeights[move] += weights[child];
                moves[child] = move;
                arrivals[arrived] = child;
                arrived++;
            }
            return AGREES;
        }

        private void unsettle(int move, int mark) {
            for (int at = arrived - 1; at >= mark; at--) {
                int node = arrivals[at];
                arrivedCounts[moves[node]]--;
                moveWeights[moves[node]] -= weights[node];
            }
            arrived = mark;
            targets[move] = NONE;
        }

        private void hand(Machine machine) {
            machine.clear(allowed);
            for (int move = 0; move < MOVES; move++) {
                if (targets[move] != NONE) {
                    machine.setMove(move, targets[move], codes[arrivedAt[move * NODES]]);
                }
            }
        }
    }

    /** What was learned from the rows, kept until they change: many calls ask for the same. */
    private static final class Study {
        private final MachineSearch machineSearch = new MachineSearch();
        private final RuleLearner ruleLearner = new RuleLearner();
        private final Machine machine = new Machine();
        private final Rules rules = new Rules();
        private int without = NONE;
        private boolean machineKnown;
        private boolean rulesKnown;

        void forget() {
            machineKnown = false;
            rulesKnown = false;
        }

        void leaveOut(int row) {
            if (row != without) {
                without = row;
                forget();
            }
        }

        Machine machineOf(Rows rows) {
            if (!machineKnown) {
                machineSearch.search(rows, without, machine);
                machineKnown = true;
            }
            return machine;
        }

        Rules rulesOf(Rows rows) {
            if (!rulesKnown) {
                ruleLearner.learn(rows, without, rules);
                rulesKnown = true;
            }
            return rules;
        }
    }

    /** A run of the stand-in, with a machine and rules of its own: later rows leave it as it is. */
    private static final class Run {
        private final Machine machine = new Machine();
        private final Rules rules = new Rules();
        private final Memory memory = new Memory();
        private final int[] latestFields = new int[FIELDS];
        private boolean on;
        private int state;
        private int answered;
        private int unseen;

        void start(Machine byMachine, Rules byRules) {
            machine.copy(byMachine);
            rules.copy(byRules);
            memory.clear();
            Arrays.fill(latestFields, NO_NUMBER);
            on = true;
            state = 0;
            answered = 0;
            unseen = 0;
        }

        void stop() {
            on = false;
        }

        int answer(int verb, int ask) {
            int code = machine.toldBy(state, verb);
            if (code == NONE || rules.lacks(verb, ask)) {
                unseen++;
                return UNSEEN;
            }
            for (int field = 0; field < FIELDS; field++) {
                latestFields[field] = rules.foretell(verb, field, ask, memory);
            }
            memory.note(verb, ask);
            state = machine.targetOf(state, verb);
            answered++;
            return code;
        }

        boolean isOn() {
            return on;
        }

        int state() {
            return state;
        }

        int answered() {
            return answered;
        }

        int unseen() {
            return unseen;
        }

        int latestField(int field) {
            return latestFields[field];
        }

        void copy(Run from) {
            machine.copy(from.machine);
            rules.copy(from.rules);
            memory.copy(from.memory);
            System.arraycopy(from.latestFields, 0, latestFields, 0, FIELDS);
            on = from.on;
            state = from.state;
            answered = from.answered;
            unseen = from.unseen;
        }
    }

    /** All that is told: the rows and the run. */
    private static final class Image {
        private final Rows rows = new Rows();
        private final Run run = new Run();

        void copy(Image from) {
            rows.copy(from.rows);
            run.copy(from.run);
        }
    }
}
