/** Promises 18 (image) and 19 (again). */
public final class ImageTest {
    public static void main(String[] args) {
        everyExchangeComesBack();
        whatIsLearnedComesBack();
        nextRowAndPlace();
        runComesBack();
        unseenOnesComeBack();
        machineAndRulesOfTheRunComeBack();
        tableOfTheRunComesBack();
        noRunComesBack();
        imageOfANewObject();
        imageStaysAsItWas();
        otherImagesStay();
        imageIsMadeAnew();
        imageOfAnotherNumber();
        againOfNoImage();
        refusedAgainChangesNothing();
        Check.end();
    }

    private static void rowIs(String name, RecordedNeighbours x, int row, int... want) {
        for (int place = 0; place * 6 < want.length; place++) {
            for (int what = 0; what < 6; what++) {
                Check.due(name + ": tell " + what + " of place " + place,
                        x.tell(row, place, what), want[place * 6 + what]);
            }
        }
        Check.due(name + ": no more", x.tell(row, want.length / 6, 0), -1);
    }

    /** Promise 18: "Image k (0 .. 2) is all that is told, as it is now: true". */
    private static void everyExchangeComesBack() {
        for (int k = 0; k < 3; k++) {
            RecordedNeighbours x = Check.withRows(2);
            x.exchange(0, 1, Check.ask(2, 3), Check.answer(1, 5, 6));
            x.exchange(0, 2, Check.ask(99, 98), Check.answer(3, 97, 96));
            x.exchange(1, 0, Check.ask(10, 20), Check.answer(2, 30, 40));
            Check.due("image " + k, x.image(k), true);
            x.row();
            x.cut(0, 0);
            x.cut(1, 0);
            for (int row = 0; row < 3; row++) {
                x.exchange(row, 1, Check.ask(7, 7), Check.answer(0, 7, 7));
                x.exchange(row, 1, Check.ask(8, 8), Check.answer(0, 8, 8));
            }
            Check.due("again " + k, x.again(k), true);
            Check.due("rows", x.count(0), 2);
            rowIs("row 0", x, 0, 1, 2, 3, 1, 5, 6, 2, 99, 98, 3, 97, 96);
            rowIs("row 1", x, 1, 0, 10, 20, 2, 30, 40);
        }
    }

    private static void whatIsLearnedComesBack() {
        RecordedNeighbours x = new RecordedNeighbours();
        Check.rowOfCodes(x, 0, 1, 0, 2);
        Check.rowOfCodes(x, 0, 1, 0, 2, 0, 3);
        x.image(0);
        Check.rowOfCodes(x, 0, 2);
        x.exchange(0, 2, 777, 30000);
        Check.due("no machine", x.states(), -1);
        Check.due("a quarrel", x.quarrel(1), 2);
        Check.due("a rule of verb 2", x.rule(2, 0), 0);
        Check.due("unlike asks", x.count(5), 2);
        Check.due("no machine of the others", x.fresh(0, 0), -1);
        x.again(0);
        Check.due("states", x.states(), 3);
        Check.due("leads", x.leads(1, 0, 1), 2);
        Check.due("no quarrel", x.quarrel(0), -1);
        Check.due("no rule of verb 2", x.rule(2, 0), -1);
        Check.due("no c of verb 2", x.by(2, 0), -1000);
        Check.due("like asks", x.count(5), 1);
        Check.due("fresh", x.fresh(1, 0), 2);
        Check.due("held", x.held(1, 0), -1);
    }

    private static void nextRowAndPlace() {
        RecordedNeighbours x = new RecordedNeighbours();
        Check.rowOfCodes(x, 0, 1, 0, 1);
        x.image(2);
        x.exchange(0, 0, 0, 0);
        for (int row = 1; row < 8; row++) {
            x.exchange(x.row(), 0, 0, 0);
        }
        Check.due("there are 8", x.row(), -1);
        x.again(2);
        Check.due("next place", x.exchange(0, 0, 0, 0), 2);
        Check.due("row 1 has gone", x.exchange(1, 0, 0, 0), -1);
        Check.due("next row", x.row(), 1);
        Check.due("an empty one", x.tell(1, 0, 0), -1);
        Check.due("its first place", x.exchange(1, 0, 0, 0), 0);
    }

    private static void runComesBack() {
        RecordedNeighbours x = Check.withRows(1);
        x.exchange(0, 0, Check.ask(1, 20), Check.answer(1, 0, 5));
        x.exchange(0, 0, Check.ask(1, 30), Check.answer(2, 20, 6));
        x.exchange(0, 0, Check.ask(1, 60), Check.answer(1, 30, 7));
        x.begin();
        x.say(0, Check.ask(9, 44));
        x.cut(0, 0);
        x.image(2);
        x.say(0, Check.ask(9, 55));
        x.say(0, Check.ask(9, 66));
        x.begin();
        Check.due("no run", x.ran(0), -1);
        Check.due("again", x.again(2), true);
        Check.due("state", x.ran(0), 1);
        Check.due("answered", x.ran(1), 1);
        Check.due("latest field 0", x.field(0), 0);
        Check.due("latest field 1", x.field(1), 5);
        Check.due("its machine", x.say(0, Check.ask(9, 0)), 2);
        Check.due("its kept numbers", x.field(0), 44);
        Check.due("its count", x.field(1), 6);
    }

    private static void unseenOnesComeBack() {
        RecordedNeighbours x = new RecordedNeighbours();
        Check.rowOfCodes(x, 0, 1);
        x.begin();
        x.say(1, 0);
        x.say(1, 0);
        x.image(1);
        x.say(1, 0);
        Check.due("three unseen", x.ran(2), 3);
        x.again(1);
        Check.due("two unseen", x.ran(2), 2);
        x.begin();
        Check.due("none unseen", x.ran(2), 0);
        x.again(1);
        Check.due("two unseen again", x.ran(2), 2);
        Check.due("no answer yet", x.field(0), -1000);
    }

    private static void machineAndRulesOfTheRunComeBack() {
        RecordedNeighbours x = Check.withRows(1);
        x.exchange(0, 0, Check.ask(1, 2), Check.answer(3, 30, 7));
        x.begin();
        x.image(0);
        x.cut(0, 0);
        x.exchange(0, 0, Check.ask(1, 2), Check.answer(2, 31, 8));
        x.exchange(0, 0, Check.ask(9, 2), Check.answer(1, 39, 8));
        x.begin();
        Check.due("another machine", x.say(0, Check.ask(5, 5)), 2);
        Check.due("another rule", x.field(0), 35);
        x.again(0);
        Check.due("the machine that it began with", x.say(0, Check.ask(5, 5)), 3);
        Check.due("its rule of field 0", x.field(0), 30);
        Check.due("its rule of field 1", x.field(1), 7);
        Check.due("its state", x.ran(0), 0);
    }

    private static void tableOfTheRunComesBack() {
        RecordedNeighbours x = Check.withRows(1);
        x.exchange(0, 0, Check.ask(1, 2), Check.answer(0, 30, 0));
        x.exchange(0, 0, Check.ask(2, 2), Check.answer(0, 10, 0));
        x.exchange(0, 0, Check.ask(1, 3), Check.answer(0, 90, 0));
        x.begin();
        x.image(0);
        x.cut(0, 0);
        x.exchange(0, 0, Check.ask(5, 5), Check.answer(0, 1, 0));
        x.exchange(0, 0, Check.ask(6, 6), Check.answer(0, 9, 0));
        x.exchange(0, 0, Check.ask(2, 2), Check.answer(0, 50, 0));
        x.begin();
        x.say(0, Check.ask(2, 2));
        Check.due("another table", x.field(0), 50);
        x.again(0);
        Check.due("not in its table", x.say(0, Check.ask(5, 5)), -2);
        Check.due("in its table", x.say(0, Check.ask(2, 2)), 0);
        Check.due("by its table", x.field(0), 10);
    }

    private static void noRunComesBack() {
        RecordedNeighbours x = new RecordedNeighbours();
        Check.rowOfCodes(x, 0, 1);
        x.image(1);
        x.begin();
        x.say(0, 0);
        x.again(1);
        Check.due("no run", x.say(0, 0), -1);
        Check.due("no field", x.field(0), -1000);
        Check.due("none ran", x.ran(1), -1);
    }

    private static void imageOfANewObject() {
        RecordedNeighbours x = new RecordedNeighbours();
        Check.due("image", x.image(0), true);
        Check.rowOfCodes(x, 0, 1);
        x.begin();
        Check.due("again", x.again(0), true);
        for (int what = 0; what < 6; what++) {
            Check.due("count " + what, x.count(what), 0);
        }
        Check.due("states", x.states(), 0);
        Check.due("no run", x.ran(0), -1);
        Check.due("the first row", x.row(), 0);
    }

    private static void imageStaysAsItWas() {
        RecordedNeighbours x = new RecordedNeighbours();
        Check.rowOfCodes(x, 0, 1);
        x.begin();
        x.image(0);
        for (int time = 0; time < 3; time++) {
            Check.due("again", x.again(0), true);
            Check.due("rows", x.count(0), 1);
            Check.due("exchanges", x.count(1), 1);
            Check.due("code", x.tell(0, 0, 3), 1);
            Check.due("answered", x.ran(1), 0);
            x.say(0, 0);
            x.cut(0, 0);
            x.exchange(0, 0, 0, Check.answer(2, 0, 0));
            x.exchange(0, 0, 0, Check.answer(2, 0, 0));
            Check.rowOfCodes(x, 1, 1);
        }
    }

    /** Promise 19: "All that is as image k has it (other images stay): true". */
    private static void otherImagesStay() {
        RecordedNeighbours x = new RecordedNeighbours();
        for (int k = 0; k < 3; k++) {
            x.row();
            x.image(k);
        }
        x.row();
        int[] order = {1, 0, 2, 0, 1, 2, 1};
        for (int k : order) {
            Check.due("again " + k, x.again(k), true);
            Check.due("rows of image " + k, x.count(0), k + 1);
        }
        x.again(0);
        x.image(2);
        x.again(1);
        Check.due("image 1 stays", x.count(0), 2);
        x.again(2);
        Check.due("image 2 is of image 0", x.count(0), 1);
    }

    private static void imageIsMadeAnew() {
        RecordedNeighbours x = new RecordedNeighbours();
        x.image(0);
        x.row();
        Check.due("once more", x.image(0), true);
        x.row();
        x.again(0);
        Check.due("the later image", x.count(0), 1);
    }

    /** Promise 18: "false for another k." */
    private static void imageOfAnotherNumber() {
        RecordedNeighbours x = Check.withRows(1);
        for (int k : Check.outside(3)) {
            Check.due("image " + k, x.image(k), false);
        }
        for (int k = 0; k < 3; k++) {
            Check.due("it made no image " + k, x.again(k), false);
        }
    }

    /** Promise 19: "false if there is none such." */
    private static void againOfNoImage() {
        for (int made = 0; made < 3; made++) {
            RecordedNeighbours x = Check.withRows(1);
            x.image(made);
            for (int k = 0; k < 3; k++) {
                Check.due("again " + k + ", image " + made, x.again(k), k == made);
            }
            for (int k : Check.outside(3)) {
                Check.due("again " + k, x.again(k), false);
            }
        }
    }

    private static void refusedAgainChangesNothing() {
        RecordedNeighbours x = new RecordedNeighbours();
        x.image(0);
        Check.rowOfCodes(x, 0, 1);
        x.begin();
        x.say(0, 0);
        int[] none = {-1, 1, 2, 3};
        for (int k : none) {
            Check.due("again " + k, x.again(k), false);
            Check.due("the row stays", x.count(1), 1);
            Check.due("the run stays", x.ran(1), 1);
        }
        Check.due("the image stays", x.again(0), true);
        Check.due("as it was", x.count(0), 0);
    }
}
