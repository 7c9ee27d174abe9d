import java.util.Random;

/** All promises: long runs of calls, held against the plain model call by call. */
public final class AgainstModelTest {
    private static final int OBJECTS = 300;
    private static final int CALLS = 400;

    private final Random random;
    private final RecordedNeighbours x = new RecordedNeighbours();
    private final PlainModel model = new PlainModel();
    private final int seed;
    private final int verbs;
    private final int numbers;
    private final int helperStates;
    private final int[] helperTargets;
    private final int[] helperCodes;
    private final int helperRule;
    private final int noise;
    private final int[] rowStates = new int[8];

    private AgainstModelTest(int seed) {
        this.seed = seed;
        random = new Random(seed);
        verbs = 1 + random.nextInt(3);
        numbers = 1 + random.nextInt(random.nextBoolean() ? 4 : 100);
        helperStates = 1 + random.nextInt(4);
        helperTargets = new int[helperStates * 3];
        helperCodes = new int[helperStates * 3];
        int codes = 1 + random.nextInt(4);
        for (int i = 0; i < helperTargets.length; i++) {
            helperTargets[i] = random.nextInt(helperStates);
            helperCodes[i] = random.nextInt(codes);
        }
        helperRule = random.nextInt(7);
        noise = random.nextBoolean() ? 0 : 30;
    }

    public static void main(String[] args) {
        for (int seed = 0; seed < OBJECTS && !Check.isWrong(); seed++) {
            AgainstModelTest run = new AgainstModelTest(seed);
            for (int call = 0; call < CALLS && !Check.isWrong(); call++) {
                run.step();
            }
        }
        Check.end();
    }

    private void due(String call, int got, int want) {
        Check.due("seed " + seed + ": " + call, got, want);
    }

    private void due(String call, boolean got, boolean want) {
        Check.due("seed " + seed + ": " + call, got, want);
    }

    /** Mostly within the bound, at times just beside it or far from it. */
    private int near(int bound) {
        if (random.nextInt(12) != 0) {
            return random.nextInt(bound);
        }
        int[] outside = Check.outside(bound);
        return random.nextBoolean() ? (random.nextBoolean() ? -1 : bound) : outside[random.nextInt(outside.length)];
    }

    private void step() {
        int kind = random.nextInt(100);
        if (kind < 6) {
            due("row()", x.row(), model.row());
        } else if (kind < 40) {
            exchange();
        } else if (kind < 45) {
            cut();
        } else if (kind < 70) {
            askOfRows();
        } else if (kind < 92) {
            askOfRun();
        } else {
            images();
        }
    }

    private void exchange() {
        int rows = model.count(0);
        if (random.nextInt(15) == 0 || rows == 0) {
            int row = near(8);
            int verb = near(3);
            int ask = near(10000);
            int answer = near(40000);
            due("exchange of any", x.exchange(row, verb, ask, answer), model.exchange(row, verb, ask, answer));
            return;
        }
        int row = random.nextInt(rows);
        int verb = random.nextInt(verbs);
        int a = random.nextInt(numbers);
        int b = random.nextInt(numbers);
        int answer = helperAnswer(row, verb, a, b);
        int ask = Check.ask(a, b);
        due("exchange(" + row + ", " + verb + ", " + ask + ", " + answer + ")",
                x.exchange(row, verb, ask, answer), model.exchange(row, verb, ask, answer));
    }

    private int helperAnswer(int row, int verb, int a, int b) {
        if (noise != 0 && random.nextInt(noise) == 0) {
            return random.nextInt(40000);
        }
        int state = 0;
        int verbCount = 0;
        int kept = -1;
        for (int place = 0; model.tell(row, place, 0) >= 0; place++) {
            int earlier = model.tell(row, place, 0);
            state = helperTargets[state * 3 + earlier];
            verbCount += earlier == verb ? 1 : 0;
            kept = model.tell(row, place, 1) == a ? model.tell(row, place, 2) : kept;
        }
        int code = helperCodes[state * 3 + verb];
        return Check.answer(code, helperField((helperRule + verb) % 7, verbCount, kept, a, b),
                helperField((helperRule + verb + 3) % 7, verbCount, kept, a, b));
    }

    private int helperField(int rule, int verbCount, int kept, int a, int b) {
        switch (rule) {
            case 0: return 42;
            case 1: return Math.min(a + 3, 99);
            case 2: return Math.max(b - 1, 0);
            case 3: return verbCount + 2;
            case 4: return kept < 0 ? 0 : Math.max(kept - 1, 0);
            case 5: return (a * 31 + b * 17) % 100;
            default: return random.nextInt(100);
        }
    }

    private void cut() {
        int row = near(8);
        int n = near(13);
        due("cut(" + row + ", " + n + ")", x.cut(row, n), model.cut(row, n));
    }

    private void askOfRows() {
        int row = near(8);
        int what = near(3);
        int verb = near(3);
        int field = near(2);
        switch (random.nextInt(8)) {
            case 0:
                int place = near(12);
                int part = near(6);
                due("tell", x.tell(row, place, part), model.tell(row, place, part));
                break;
            case 1:
                due("quarrel", x.quarrel(what), model.quarrel(what));
                break;
            case 2:
                due("rule", x.rule(verb, field), model.rule(verb, field));
                due("by", x.by(verb, field), model.by(verb, field));
                break;
            case 3:
                due("states", x.states(), model.states());
                break;
            case 4:
                int state = near(4);
                due("leads", x.leads(state, verb, field), model.leads(state, verb, field));
                break;
            case 5:
                due("held", x.held(row, field), model.held(row, field));
                break;
            case 6:
                due("fresh", x.fresh(row, field), model.fresh(row, field));
                break;
            default:
                int many = near(6);
                due("count", x.count(many), model.count(many));
                break;
        }
    }

    private void askOfRun() {
        int kind = random.nextInt(12);
        if (kind == 0) {
            due("begin", x.begin(), model.begin());
        } else if (kind < 7) {
            int verb = near(verbs);
            int ask = random.nextInt(20) == 0 ? near(10000)
                    : Check.ask(random.nextInt(numbers), random.nextInt(numbers));
            due("say(" + verb + ", " + ask + ")", x.say(verb, ask), model.say(verb, ask));
        } else if (kind < 10) {
            int field = near(2);
            due("field", x.field(field), model.field(field));
        } else {
            int what = near(3);
            due("ran", x.ran(what), model.ran(what));
        }
    }

    private void images() {
        int k = near(3);
        if (random.nextBoolean()) {
            due("image(" + k + ")", x.image(k), model.image(k));
        } else {
            due("again(" + k + ")", x.again(k), model.again(k));
        }
    }
}
