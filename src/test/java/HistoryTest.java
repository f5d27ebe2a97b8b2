/** Promise 14: undo, and what the section "Changes" says. */
public final class HistoryTest {
    private static final Checks CHECKS = new Checks();

    /** Something that can be undone. */
    private interface Change {
        int make(BallastTrain train);
    }

    public static void main(String[] args) {
        nothingToUndo();
        everyChangeIsUndone();
        sixStates();
        textIsNoPartOfAState();
        whatIsToldIsNoChange();
        changesAfterUndo();
        CHECKS.end();
    }

    private static BallastTrain busy() {
        BallastTrain train = Trains.standingAt(4, 150);
        Trains.typed(train, "@30c0r;@35v2;").order();
        train.set(2, 3);
        train.door(0, 0, 3);
        train.door(0, 1, 2);
        train.door(0, 1, 0);
        train.pass(3);
        return train;
    }

    private static void nothingToUndo() {
        BallastTrain train = new BallastTrain();
        long before = train.digest();
        CHECKS.due("undo()", train.undo(), BallastTrain.STATE);
        CHECKS.unchanged("undo()", train, before);
    }

    private static void everyChangeIsUndone() {
        undone("set", train -> train.set(1, 3));
        undone("setTrain", train -> train.setTrain(6));
        undone("load", train -> train.load(0, 7));
        undone("door", train -> train.door(0, 2, 3));
        undone("closing door", train -> train.door(0, 0, 0));
        undone("wish", train -> train.wish(2));
        undone("order", train -> train.order());
        undone("cancel", train -> train.cancel(0));
        undone("pass", train -> train.pass(100));
        undone("scrape", train -> train.scrape(4, 0, 2));
        undone("set to the same", train -> train.set(1, 12));
        undone("scrape of nothing", train -> train.scrape(30, 0, 2));
    }

    private static void undone(String name, Change change) {
        BallastTrain train = busy();
        long[] told = told(busy());
        CHECKS.due(name + " is no error", change.make(train) >= 0 ? 1 : 0, 1);
        CHECKS.due("states after " + name, train.count(12), 6);
        CHECKS.due("undo() of " + name, train.undo(), 5);
        long[] after = told(train);
        for (int i = 0; i < told.length; i++) {
            CHECKS.due("number " + i + " after undo() of " + name, after[i], told[i]);
        }
    }

    /** The numbers of the state, but for that of the states in the history. */
    private static long[] told(BallastTrain train) {
        long[] told = new long[300];
        int n = 0;
        for (int what = 0; what < 19; what++) {
            told[n++] = what == 12 ? 0 : train.count(what);
        }
        for (int wagon = 0; wagon < 6; wagon++) {
            for (int what = 0; what < 5; what++) {
                told[n++] = train.wagon(wagon, what);
            }
            for (int door = 0; door < 3; door++) {
                told[n++] = train.doorOf(wagon, door, 0);
                told[n++] = train.doorOf(wagon, door, 1);
            }
        }
        for (int cell = 0; cell < 40; cell++) {
            for (int strip = 0; strip < 3; strip++) {
                told[n++] = train.height(cell, strip);
            }
        }
        for (int i = 0; i < 10; i++) {
            for (int what = 0; what < 5; what++) {
                told[n++] = train.ordered(i, what);
            }
        }
        return told;
    }

    private static void sixStates() {
        BallastTrain train = new BallastTrain();
        for (int value = 1; value <= 9; value++) {
            CHECKS.due("set(4, " + value + ")", train.set(4, value), value == 1 ? 8 : value - 1);
            CHECKS.due("states", train.count(12), Math.min(value, 6));
        }
        for (int left = 5; left >= 0; left--) {
            CHECKS.due("undo()", train.undo(), left);
            CHECKS.due("the aim", train.count(18), left + 3);
        }
        CHECKS.due("undo() of the oldest", train.undo(), BallastTrain.STATE);
        CHECKS.due("the aim", train.count(18), 3);
    }

    private static void textIsNoPartOfAState() {
        BallastTrain train = Trains.typed("@1v1;");
        train.order();
        train.type(64);
        CHECKS.due("undo()", train.undo(), 0);
        CHECKS.due("length of the text", train.count(13), 6);
        CHECKS.due("orders", train.count(5), 0);
    }

    private static void whatIsToldIsNoChange() {
        BallastTrain train = busy();
        long[] before = told(busy());
        train.foretell(200, 0);
        train.emptyAfter();
        train.digest();
        train.fault();
        long[] after = told(train);
        for (int i = 0; i < before.length; i++) {
            CHECKS.due("number " + i + " after asking", after[i], before[i]);
        }
        CHECKS.due("states", train.count(12), 6);
    }

    private static void changesAfterUndo() {
        BallastTrain train = new BallastTrain();
        for (int value = 1; value <= 8; value++) {
            train.set(3, value);
        }
        train.undo();
        train.undo();
        train.set(3, 50);
        CHECKS.due("states", train.count(12), 5);
        int[] want = {6, 5, 4, 3, 2};
        for (int value : want) {
            train.undo();
            CHECKS.due("the jam", train.count(17), value);
        }
        CHECKS.due("undo()", train.undo(), BallastTrain.STATE);
    }
}
