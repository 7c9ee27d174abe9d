/** Promises 18 (image) and 19 (again). */
public final class ImageTest {
    public static void main(String[] args) {
        rowsComeBack();
        runComesBack();
        machineAndRulesOfTheRunComeBack();
        noRunComesBack();
        imagesStayApart();
        imageIsMadeAnew();
        wrongInputs();
        Check.end();
    }

    private static void rowsComeBack() {
        RecordedNeighbours x = new RecordedNeighbours();
        Check.rowOfCodes(x, 0, 1, 0, 2);
        Check.due("image", x.image(0), true);
        Check.rowOfCodes(x, 1, 1);
        x.cut(0, 0);
        x.exchange(0, 2, 777, 30000);
        Check.due("states of others", x.states(), 1);
        Check.due("again", x.again(0), true);
        Check.due("rows", x.count(0), 1);
        Check.due("exchanges", x.count(1), 2);
        Check.due("verb", x.tell(0, 0, 0), 0);
        Check.due("code", x.tell(0, 0, 3), 1);
        Check.due("states", x.states(), 2);
        Check.due("machine", x.leads(0, 0, 1), 1);
        Check.due("rules", x.rule(2, 0), -1);
        Check.due("next row", x.row(), 1);
        Check.due("an empty one", x.tell(1, 0, 0), -1);
        Check.due("again once more", x.again(0), true);
        Check.due("rows as in the image", x.count(0), 1);
    }

    private static void runComesBack() {
        RecordedNeighbours x = new RecordedNeighbours();
        x.row();
        x.exchange(0, 0, Check.ask(1, 20), Check.answer(1, 0, 5));
        x.exchange(0, 0, Check.ask(1, 30), Check.answer(2, 20, 6));
        x.exchange(0, 0, Check.ask(1, 60), Check.answer(1, 30, 7));
        x.begin();
        x.say(0, Check.ask(9, 44));
        x.say(1, 0);
        x.cut(0, 0);
        x.image(2);
        x.say(0, Check.ask(9, 55));
        x.say(0, Check.ask(9, 66));
        x.begin();
        Check.due("no run", x.ran(0), -1);
        Check.due("again", x.again(2), true);
        Check.due("state", x.ran(0), 1);
        Check.due("answered", x.ran(1), 1);
        Check.due("unseen", x.ran(2), 1);
        Check.due("latest field", x.field(1), 5);
        Check.due("its machine", x.say(0, Check.ask(9, 0)), 2);
        Check.due("its kept numbers", x.field(0), 44);
        Check.due("its count", x.field(1), 6);
        x.again(2);
        Check.due("the image is not of the run", x.ran(1), 1);
    }

    private static void machineAndRulesOfTheRunComeBack() {
        RecordedNeighbours x = new RecordedNeighbours();
        x.row();
        x.exchange(0, 0, Check.ask(1, 2), Check.answer(3, 30, 7));
        x.begin();
        x.image(0);
        x.cut(0, 0);
        x.exchange(0, 0, Check.ask(1, 2), Check.answer(2, 31, 8));
        x.exchange(0, 0, Check.ask(9, 2), Check.answer(1, 39, 8));
        x.begin();
        Check.due("another machine", x.say(0, Check.ask(5, 5)), 2);
        Check.due("another rule", x.field(0), 35);
        x.again(0);
        Check.due("the machine that it began with", x.say(0, Check.ask(5, 5)), 3);
        Check.due("its rule of field 0", x.field(0), 30);
        Check.due("its rule of field 1", x.field(1), 7);
        Check.due("its state", x.ran(0), 0);
    }

    private static void noRunComesBack() {
        RecordedNeighbours x = new RecordedNeighbours();
        Check.rowOfCodes(x, 0, 1);
        x.image(1);
        x.begin();
        x.say(0, 0);
        x.again(1);
        Check.due("no run", x.say(0, 0), -1);
        Check.due("no field", x.field(0), -1000);
        Check.due("none ran", x.ran(1), -1);
    }

    private static void imagesStayApart() {
        RecordedNeighbours x = new RecordedNeighbours();
        for (int k = 0; k < 3; k++) {
            x.row();
            x.image(k);
        }
        x.row();
        int[] order = {1, 0, 2, 0, 1};
        for (int k : order) {
            Check.due("again " + k, x.again(k), true);
            Check.due("rows of image " + k, x.count(0), k + 1);
        }
    }

    private static void imageIsMadeAnew() {
        RecordedNeighbours x = new RecordedNeighbours();
        x.image(0);
        x.row();
        x.image(0);
        x.row();
        x.again(0);
        Check.due("the later image", x.count(0), 1);
    }

    private static void wrongInputs() {
        RecordedNeighbours x = new RecordedNeighbours();
        x.row();
        int[] far = {Integer.MIN_VALUE, -1, 3, Integer.MAX_VALUE};
        for (int wrong : far) {
            Check.due("image " + wrong, x.image(wrong), false);
            Check.due("again " + wrong, x.again(wrong), false);
        }
        for (int k = 0; k < 3; k++) {
            Check.due("no image " + k, x.again(k), false);
        }
        Check.due("nothing changed", x.count(0), 1);
        x.image(1);
        Check.due("another image is none", x.again(0), false);
    }
}
