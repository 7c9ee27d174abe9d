import java.util.ArrayList;
import java.util.List;
import java.util.function.Function;
import java.util.function.Supplier;

/** All promises: a call that is refused, or that only tells, changes nothing that is told. */
public final class UnchangedTest {
    private record Call(String name, Function<RecordedNeighbours, Integer> on) {
    }

    public static void main(String[] args) {
        changesNothing("new object", RecordedNeighbours::new);
        changesNothing("a run and an image", UnchangedTest::withRunAndImage);
        changesNothing("a run, rows that quarrel", UnchangedTest::withQuarrel);
        changesNothing("eight rows, one full", UnchangedTest::withFullRow);
        Check.end();
    }

    private static RecordedNeighbours withRunAndImage() {
        RecordedNeighbours x = Check.withRows(2);
        x.exchange(0, 0, Check.ask(1, 20), Check.answer(1, 0, 5));
        x.exchange(0, 0, Check.ask(1, 30), Check.answer(2, 20, 6));
        x.exchange(1, 0, Check.ask(1, 60), Check.answer(1, 0, 5));
        x.image(1);
        x.begin();
        x.say(0, Check.ask(3, 4));
        x.say(1, 0);
        return x;
    }

    private static RecordedNeighbours withQuarrel() {
        RecordedNeighbours x = withRunAndImage();
        Check.rowOfCodes(x, 0, 3);
        x.image(2);
        return x;
    }

    private static RecordedNeighbours withFullRow() {
        RecordedNeighbours x = Check.withRows(8);
        for (int place = 0; place < 12; place++) {
            x.exchange(7, place % 2, place, Check.answer(place % 2, place, 7));
        }
        x.begin();
        x.say(0, 0);
        return x;
    }

    /** Each call on an object of its own: so none is used for more than 512 calls. */
    private static void changesNothing(String name, Supplier<RecordedNeighbours> object) {
        String before = allThatIsTold(object.get());
        for (Call call : callsThatTell()) {
            RecordedNeighbours x = object.get();
            call.on.apply(x);
            Check.due(name + ": behind " + call.name, allThatIsTold(x), before);
        }
        for (Call call : refusedCalls()) {
            RecordedNeighbours x = object.get();
            int answer = call.on.apply(x);
            Check.due(name + ": " + call.name + " is refused", answer <= 0, true);
            Check.due(name + ": behind " + call.name, allThatIsTold(x), before);
        }
        fullIsRefused(name, object, before);
    }

    private static void fullIsRefused(String name, Supplier<RecordedNeighbours> object, String before) {
        RecordedNeighbours x = object.get();
        if (x.count(0) == 8) {
            Check.due(name + ": ninth row", x.row(), -1);
            Check.due(name + ": thirteenth exchange", x.exchange(7, 2, 9999, 39999), -1);
            Check.due(name + ": cut to 13", x.cut(7, 13), false);
            Check.due(name + ": behind them", allThatIsTold(x), before);
        }
    }

    private static List<Call> callsThatTell() {
        List<Call> calls = new ArrayList<>();
        calls.add(new Call("states", x -> x.states()));
        for (int what = -1; what <= 6; what++) {
            int w = what;
            calls.add(new Call("tell(0, 0, " + w + ")", x -> x.tell(0, 0, w)));
            calls.add(new Call("tell(7, 11, " + w + ")", x -> x.tell(7, 11, w)));
            calls.add(new Call("quarrel(" + w + ")", x -> x.quarrel(w)));
            calls.add(new Call("rule(0, " + w + ")", x -> x.rule(0, w)));
            calls.add(new Call("by(0, " + w + ")", x -> x.by(0, w)));
            calls.add(new Call("leads(0, 0, " + w + ")", x -> x.leads(0, 0, w)));
            calls.add(new Call("field(" + w + ")", x -> x.field(w)));
            calls.add(new Call("ran(" + w + ")", x -> x.ran(w)));
            calls.add(new Call("held(0, " + w + ")", x -> x.held(0, w)));
            calls.add(new Call("held(" + w + ", 0)", x -> x.held(w, 0)));
            calls.add(new Call("fresh(0, " + w + ")", x -> x.fresh(0, w)));
            calls.add(new Call("fresh(" + w + ", 0)", x -> x.fresh(w, 0)));
            calls.add(new Call("count(" + w + ")", x -> x.count(w)));
        }
        return calls;
    }

    /** Refused in each of the objects above: these answer NONE, or false (0). */
    private static List<Call> refusedCalls() {
        List<Call> calls = new ArrayList<>();
        for (int number : Check.outside(40000)) {
            calls.add(new Call("exchange(" + number + ", 0, 0, 0)", x -> x.exchange(number, 0, 0, 0)));
            calls.add(new Call("exchange(0, " + number + ", 0, 0)", x -> x.exchange(0, number, 0, 0)));
            calls.add(new Call("exchange(0, 0, " + number + ", 0)", x -> x.exchange(0, 0, number, 0)));
            calls.add(new Call("exchange(0, 0, 0, " + number + ")", x -> x.exchange(0, 0, 0, number)));
            calls.add(new Call("cut(" + number + ", 0)", x -> x.cut(number, 0) ? 1 : 0));
            calls.add(new Call("cut(0, " + number + ")", x -> x.cut(0, number) ? 1 : 0));
            calls.add(new Call("say(" + number + ", 0)", x -> x.say(number, 0)));
            calls.add(new Call("say(0, " + number + ")", x -> x.say(0, number)));
            calls.add(new Call("image(" + number + ")", x -> x.image(number) ? 1 : 0));
            calls.add(new Call("again(" + number + ")", x -> x.again(number) ? 1 : 0));
        }
        calls.add(new Call("exchange of row 8", x -> x.exchange(8, 0, 0, 0)));
        calls.add(new Call("exchange of verb 3", x -> x.exchange(0, 3, 0, 0)));
        calls.add(new Call("exchange of ask 10000", x -> x.exchange(0, 0, 10000, 0)));
        calls.add(new Call("cut to 13", x -> x.cut(0, 13) ? 1 : 0));
        calls.add(new Call("image 3", x -> x.image(3) ? 1 : 0));
        calls.add(new Call("again 3", x -> x.again(3) ? 1 : 0));
        calls.add(new Call("again of an image that was not made", x -> x.again(0) ? 1 : 0));
        return calls;
    }

    /** Images are told last: again() changes the rest. */
    private static String allThatIsTold(RecordedNeighbours x) {
        StringBuilder told = new StringBuilder(rowsAndRun(x));
        for (int k = 0; k < 3; k++) {
            told.append("; image ").append(k).append(x.again(k) ? ": " + counts(x) : ": none");
        }
        return told.toString();
    }

    private static String rowsAndRun(RecordedNeighbours x) {
        StringBuilder told = new StringBuilder(counts(x));
        for (int row = 0; row < x.count(0); row++) {
            told.append("; row ").append(row).append(':');
            for (int place = 0; x.tell(row, place, 0) != -1; place++) {
                for (int what = 0; what < 6; what++) {
                    told.append(' ').append(x.tell(row, place, what));
                }
            }
            told.append(", fresh ").append(x.fresh(row, 0)).append(' ').append(x.fresh(row, 1));
            told.append(", held ").append(x.held(row, 0));
        }
        told.append("; quarrel ").append(x.quarrel(0)).append(' ').append(x.quarrel(1)).append(' ').append(x.quarrel(2));
        for (int verb = 0; verb < 3; verb++) {
            told.append("; verb ").append(verb).append(':');
            for (int field = 0; field < 2; field++) {
                told.append(' ').append(x.rule(verb, field)).append(" by ").append(x.by(verb, field));
            }
            for (int state = 0; state < 4; state++) {
                told.append(", ").append(x.leads(state, verb, 0)).append(' ').append(x.leads(state, verb, 1));
            }
        }
        told.append("; run:");
        for (int what = 0; what < 3; what++) {
            told.append(' ').append(x.ran(what));
        }
        told.append(", fields ").append(x.field(0)).append(' ').append(x.field(1));
        told.append(", says ").append(x.say(0, Check.ask(3, 5))).append(' ').append(x.field(0)).append(' ').append(x.field(1));
        return told.toString();
    }

    private static String counts(RecordedNeighbours x) {
        StringBuilder told = new StringBuilder("counts");
        for (int what = 0; what < 6; what++) {
            told.append(' ').append(x.count(what));
        }
        return told.append(", states ").append(x.states()).append(", answered ").append(x.ran(1)).toString();
    }
}
