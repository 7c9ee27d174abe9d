import java.util.ArrayList;
import java.util.HashMap;
import java.util.HashSet;
import java.util.List;
import java.util.Map;
import java.util.Set;

/**
 * The document read word by word, with no thought for speed: what RecordedNeighbours is
 * held against. It shares no code and no way of working with it.
 */
final class PlainModel {
    record Exchange(int verb, int a, int b, int code, int field0, int field1) {
        int field(int f) {
            return f == 0 ? field0 : field1;
        }

        boolean sameAsk(Exchange other) {
            return verb == other.verb && a == other.a && b == other.b;
        }
    }

    record Move(int state, int verb) {
    }

    record Told(int target, int code) {
    }

    record Rule(int kind, int c) {
    }

    /** What a stand-in knows: null moves if there is no machine. */
    record StandIn(int states, Map<Move, Told> moves, Rule[][] rules, List<Exchange> seen) {
    }

    static final class Run {
        StandIn standIn;
        List<Exchange> answered = new ArrayList<>();
        int state;
        int unseen;
        Integer[] latest = {null, null};

        Run(StandIn standIn) {
            this.standIn = standIn;
        }

        Run copy() {
            Run copy = new Run(standIn);
            copy.answered = new ArrayList<>(answered);
            copy.state = state;
            copy.unseen = unseen;
            copy.latest = latest.clone();
            return copy;
        }

        int say(int verb, int a, int b) {
            Exchange ask = new Exchange(verb, a, b, 0, 0, 0);
            Told told = standIn.moves.get(new Move(state, verb));
            boolean seen = told != null;
            for (int f = 0; seen && f < 2; f++) {
                if (standIn.rules[verb][f].kind == 5) {
                    seen = standIn.seen.stream().anyMatch(e -> e.sameAsk(ask));
                }
            }
            if (!seen) {
                unseen++;
                return -2;
            }
            for (int f = 0; f < 2; f++) {
                latest[f] = fieldOf(ask, f);
            }
            answered.add(ask);
            state = told.target;
            return told.code;
        }

        private Integer fieldOf(Exchange ask, int f) {
            Rule rule = standIn.rules[ask.verb][f];
            switch (rule.kind) {
                case 0: return rule.c;
                case 1: return ask.a + rule.c;
                case 2: return ask.b + rule.c;
                case 3: return countAhead(answered, answered.size(), ask.verb) + rule.c;
                case 4:
                    Integer kept = keptAhead(answered, answered.size(), ask.a);
                    return kept == null ? 0 : kept + rule.c;
                case 5:
                    return standIn.seen.stream().filter(e -> e.sameAsk(ask)).findFirst().get().field(f);
                default: return null;
            }
        }
    }

    private List<List<Exchange>> rows = new ArrayList<>();
    private Run run;
    private final Map<List<List<Exchange>>, StandIn> learned = new HashMap<>();
    private final Map<Integer, List<List<Exchange>>> imageRows = new HashMap<>();
    private final Map<Integer, Run> imageRuns = new HashMap<>();

    private static boolean in(int value, int low, int high) {
        return value >= low && value <= high;
    }

    private boolean isRow(int row) {
        return in(row, 0, rows.size() - 1);
    }

    int row() {
        if (rows.size() == 8) {
            return -1;
        }
        rows.add(new ArrayList<>());
        return rows.size() - 1;
    }

    int exchange(int row, int verb, int ask, int answer) {
        if (!isRow(row) || !in(verb, 0, 2) || !in(ask, 0, 9999) || !in(answer, 0, 39999)
                || rows.get(row).size() == 12) {
            return -1;
        }
        rows.get(row).add(new Exchange(verb, ask / 100, ask % 100, answer / 10000,
                answer / 100 % 100, answer % 100));
        return rows.get(row).size() - 1;
    }

    boolean cut(int row, int n) {
        if (!isRow(row) || !in(n, 0, rows.get(row).size())) {
            return false;
        }
        rows.set(row, new ArrayList<>(rows.get(row).subList(0, n)));
        return true;
    }

    int tell(int row, int place, int what) {
        if (!isRow(row) || !in(place, 0, rows.get(row).size() - 1) || !in(what, 0, 5)) {
            return -1;
        }
        Exchange e = rows.get(row).get(place);
        return new int[] {e.verb, e.a, e.b, e.code, e.field0, e.field1}[what];
    }

    int quarrel(int what) {
        return quarrelOf(rows, what);
    }

    private static int quarrelOf(List<List<Exchange>> rows, int what) {
        for (int i = 0; i < rows.size(); i++) {
            for (int j = i + 1; j < rows.size(); j++) {
                for (int place = 0; place < 12; place++) {
                    if (sameVerbsUpTo(rows.get(i), rows.get(j), place)
                            && rows.get(i).get(place).code != rows.get(j).get(place).code) {
                        return in(what, 0, 2) ? new int[] {i, j, place}[what] : -1;
                    }
                }
            }
        }
        return -1;
    }

    private static boolean sameVerbsUpTo(List<Exchange> one, List<Exchange> other, int place) {
        for (int p = 0; p <= place; p++) {
            if (p >= one.size() || p >= other.size() || one.get(p).verb != other.get(p).verb) {
                return false;
            }
        }
        return true;
    }

    private static int countAhead(List<Exchange> row, int place, int verb) {
        int count = 0;
        for (int p = 0; p < place; p++) {
            count += row.get(p).verb == verb ? 1 : 0;
        }
        return count;
    }

    private static Integer keptAhead(List<Exchange> row, int place, int a) {
        for (int p = place - 1; p >= 0; p--) {
            if (row.get(p).a == a) {
                return row.get(p).b;
            }
        }
        return null;
    }

    private static Rule ruleOf(List<List<Exchange>> rows, int verb, int field) {
        boolean any = rows.stream().anyMatch(r -> r.stream().anyMatch(e -> e.verb == verb));
        if (!any) {
            return null;
        }
        for (int kind = 0; kind <= 4; kind++) {
            for (int c = -120; c <= 120; c++) {
                if (holds(rows, verb, field, kind, c)) {
                    return new Rule(kind, c);
                }
            }
        }
        return new Rule(isTable(rows, verb, field) ? 5 : 6, -1000);
    }

    private static boolean holds(List<List<Exchange>> rows, int verb, int field, int kind, int c) {
        boolean someAhead = false;
        for (List<Exchange> row : rows) {
            for (int place = 0; place < row.size(); place++) {
                Exchange e = row.get(place);
                if (e.verb != verb) {
                    continue;
                }
                Integer kept = keptAhead(row, place, e.a);
                someAhead |= kept != null;
                int want;
                if (kind == 0) {
                    want = c;
                } else if (kind == 1) {
                    want = e.a + c;
                } else if (kind == 2) {
                    want = e.b + c;
                } else if (kind == 3) {
                    want = countAhead(row, place, verb) + c;
                } else {
                    want = kept == null ? 0 : kept + c;
                }
                if (e.field(field) != want) {
                    return false;
                }
            }
        }
        return kind != 4 || someAhead;
    }

    private static boolean isTable(List<List<Exchange>> rows, int verb, int field) {
        List<Exchange> all = flat(rows);
        for (Exchange x : all) {
            for (Exchange y : all) {
                if (x.verb == verb && x.sameAsk(y) && x.field(field) != y.field(field)) {
                    return false;
                }
            }
        }
        return true;
    }

    private static List<Exchange> flat(List<List<Exchange>> rows) {
        List<Exchange> all = new ArrayList<>();
        rows.forEach(all::addAll);
        return all;
    }

    /** Plain search through all machines of n states, from a place in a row on. */
    private static final class Machines {
        private final List<List<Exchange>> rows;
        private final int n;
        private final Told[][] moves;

        Machines(List<List<Exchange>> rows, int n) {
            this.rows = rows;
            this.n = n;
            this.moves = new Told[n][3];
        }

        /** Whether the moves can be made into a machine that agrees; leaves them as they were. */
        boolean canAgree() {
            return canAgree(0, 0, 0);
        }

        private boolean canAgree(int row, int place, int state) {
            if (row == rows.size()) {
                return true;
            }
            if (place == rows.get(row).size()) {
                return canAgree(row + 1, 0, 0);
            }
            Exchange e = rows.get(row).get(place);
            Told told = moves[state][e.verb];
            if (told != null) {
                return told.code == e.code && canAgree(row, place + 1, told.target);
            }
            boolean agrees = false;
            for (int target = 0; target < n && !agrees; target++) {
                moves[state][e.verb] = new Told(target, e.code);
                agrees = canAgree(row, place + 1, target);
            }
            moves[state][e.verb] = null;
            return agrees;
        }

        Map<Move, Told> least() {
            Set<Integer> come = new HashSet<>();
            come.add(0);
            Map<Move, Told> told = new HashMap<>();
            for (List<Exchange> row : rows) {
                int state = 0;
                for (Exchange e : row) {
                    if (moves[state][e.verb] == null) {
                        moves[state][e.verb] = leastMove(state, e, come);
                        told.put(new Move(state, e.verb), moves[state][e.verb]);
                    }
                    state = moves[state][e.verb].target;
                    come.add(state);
                }
            }
            return told;
        }

        private Told leastMove(int state, Exchange e, Set<Integer> come) {
            boolean allHaveCome = true;
            for (int target = 0; target < n; target++) {
                boolean allowed = come.contains(target) || allHaveCome;
                allHaveCome &= come.contains(target);
                moves[state][e.verb] = new Told(target, e.code);
                if (allowed && canAgree()) {
                    return moves[state][e.verb];
                }
            }
            throw new IllegalStateException("a machine that agrees was there");
        }
    }

    private StandIn standInOf(List<List<Exchange>> rows) {
        StandIn known = learned.get(rows);
        if (known == null) {
            List<List<Exchange>> copy = copyOf(rows);
            known = learn(copy);
            learned.put(copy, known);
        }
        return known;
    }

    private static StandIn learn(List<List<Exchange>> rows) {
        Rule[][] rules = new Rule[3][2];
        for (int verb = 0; verb < 3; verb++) {
            for (int field = 0; field < 2; field++) {
                rules[verb][field] = ruleOf(rows, verb, field);
            }
        }
        List<Exchange> seen = flat(rows);
        if (seen.isEmpty()) {
            return new StandIn(0, null, rules, seen);
        }
        boolean quarrelled = quarrelOf(rows, 0) != -1;
        for (int n = 1; n <= 4; n++) {
            if (!quarrelled && new Machines(rows, n).canAgree()) {
                return new StandIn(n, new Machines(rows, n).least(), rules, seen);
            }
        }
        return new StandIn(-1, null, rules, seen);
    }

    private static List<List<Exchange>> copyOf(List<List<Exchange>> rows) {
        List<List<Exchange>> copy = new ArrayList<>();
        rows.forEach(r -> copy.add(new ArrayList<>(r)));
        return copy;
    }

    int rule(int verb, int field) {
        Rule rule = in(verb, 0, 2) && in(field, 0, 1) ? ruleOf(rows, verb, field) : null;
        return rule == null ? -1 : rule.kind;
    }

    int by(int verb, int field) {
        Rule rule = in(verb, 0, 2) && in(field, 0, 1) ? ruleOf(rows, verb, field) : null;
        return rule == null ? -1000 : rule.c;
    }

    int states() {
        return standInOf(rows).states;
    }

    int leads(int state, int verb, int what) {
        StandIn standIn = standInOf(rows);
        Told told = standIn.moves == null ? null : standIn.moves.get(new Move(state, verb));
        if (told == null || !in(what, 0, 1)) {
            return -1;
        }
        return what == 0 ? told.target : told.code;
    }

    boolean begin() {
        StandIn standIn = standInOf(copyOf(rows));
        run = standIn.moves == null ? null : new Run(standIn);
        return run != null;
    }

    int say(int verb, int ask) {
        if (run == null || !in(verb, 0, 2) || !in(ask, 0, 9999)) {
            return -1;
        }
        return run.say(verb, ask / 100, ask % 100);
    }

    int field(int field) {
        if (run == null || !in(field, 0, 1) || run.latest[field] == null) {
            return -1000;
        }
        return run.latest[field];
    }

    int ran(int what) {
        if (run == null || !in(what, 0, 2)) {
            return -1;
        }
        return new int[] {run.state, run.answered.size(), run.unseen}[what];
    }

    int held(int row, int what) {
        return isRow(row) ? heldBy(standInOf(rows), row, what) : -1;
    }

    int fresh(int row, int what) {
        if (!isRow(row)) {
            return -1;
        }
        List<List<Exchange>> others = copyOf(rows);
        others.get(row).clear();
        return heldBy(standInOf(others), row, what);
    }

    private int heldBy(StandIn standIn, int row, int what) {
        if (standIn.moves == null || !in(what, 0, 1)) {
            return -1;
        }
        Run own = new Run(standIn);
        for (int place = 0; place < rows.get(row).size(); place++) {
            Exchange e = rows.get(row).get(place);
            int code = own.say(e.verb, e.a, e.b);
            int kind = -1;
            if (code == -2) {
                kind = 0;
            } else if (code != e.code) {
                kind = 1;
            } else if (own.latest[0] != null && own.latest[0] != e.field0) {
                kind = 2;
            } else if (own.latest[1] != null && own.latest[1] != e.field1) {
                kind = 3;
            }
            if (kind != -1) {
                return what == 0 ? place : kind;
            }
        }
        return -1;
    }

    int count(int what) {
        List<Exchange> all = flat(rows);
        switch (what) {
            case 0: return rows.size();
            case 1: return all.size();
            case 2:
            case 3:
            case 4: return (int) all.stream().filter(e -> e.verb == what - 2).count();
            case 5: return (int) all.stream().map(e -> List.of(e.verb, e.a, e.b)).distinct().count();
            default: return -1;
        }
    }

    boolean image(int k) {
        if (!in(k, 0, 2)) {
            return false;
        }
        imageRows.put(k, copyOf(rows));
        imageRuns.put(k, run == null ? null : run.copy());
        return true;
    }

    boolean again(int k) {
        if (!imageRows.containsKey(k)) {
            return false;
        }
        rows = imageRows.get(k);
        List<List<Exchange>> kept = copyOf(rows);
        imageRows.put(k, kept);
        run = imageRuns.get(k) == null ? null : imageRuns.get(k).copy();
        return true;
    }
}
