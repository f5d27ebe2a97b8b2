/** The edges that the promise 14 names, with what "Changes" and "Errors" say; a test for each sentence. */
public final class HistoryEdgesTest {
    private static final int STATE = BallastTrain.STATE;
    private static final int MOST_STATES = 6, MOST_CALLS = 512;
    private static final Checks CHECKS = new Checks();

    public static void main(String[] args) {
        stateIfThereIsNone();
        oneStateToSix();
        theSeventhDropsTheOldest();
        undoneStatesMakeRoom();
        everyChangeIsUndone();
        changesThatMakeNothingDifferent();
        noErrorIsAState();
        whatOnlyTellsIsNoState();
        undoIsNoState();
        theTextDoesNotBelongToAState();
        theTrainThatWasComesBack();
        theTimeThatWasComesBack();
        theLast512thCall();
        CHECKS.end();
    }

    /** P14: "STATE if there is none": at first, behind texts, and behind the last undo(). */
    private static void stateIfThereIsNone() {
        CHECKS.changesNothing("undo() of a new train", BallastTrain::new, x -> x.undo(), STATE);
        CHECKS.changesNothing("undo() behind a text", () -> Trains.typed("@1v1;"), x -> x.undo(), STATE);
        for (int changes = 1; changes <= 8; changes++) {
            int made = changes;
            CHECKS.changesNothing("undo() behind all undo()s", () -> {
                BallastTrain train = withChanges(made);
                for (int i = 0; i < Math.min(made, MOST_STATES); i++) {
                    train.undo();
                }
                return train;
            }, x -> x.undo(), STATE);
        }
    }

    /** So many changes: the aim is 1, 2, 3, .. then. */
    private static BallastTrain withChanges(int changes) {
        BallastTrain train = new BallastTrain();
        for (int aim = 1; aim <= changes; aim++) {
            train.set(4, aim);
        }
        return train;
    }

    private static int aimBehind(int changes) {
        return changes == 0 ? 8 : changes;
    }

    /** "A history of at most 6 states is kept"; P14: "Returns how many states are left in the history". */
    private static void oneStateToSix() {
        for (int changes = 0; changes <= MOST_STATES; changes++) {
            BallastTrain train = withChanges(changes);
            CHECKS.due("states behind " + changes, train.count(12), changes);
            for (int left = changes - 1; left >= 0; left--) {
                CHECKS.due("undo() to " + left, train.undo(), left);
                CHECKS.due("states", train.count(12), left);
                CHECKS.due("aim", train.count(18), aimBehind(left));
            }
            CHECKS.due("undo() of none", train.undo(), STATE);
            CHECKS.same("behind all undo()s", train, new BallastTrain());
        }
    }

    /** "when one more is recorded, the oldest one is dropped". */
    private static void theSeventhDropsTheOldest() {
        for (int changes = MOST_STATES; changes <= 20; changes++) {
            BallastTrain train = withChanges(changes);
            CHECKS.due("states behind " + changes, train.count(12), MOST_STATES);
            for (int left = MOST_STATES - 1; left >= 0; left--) {
                CHECKS.due("undo() to " + left, train.undo(), left);
                CHECKS.due("aim", train.count(18), aimBehind(changes - MOST_STATES + left));
            }
            CHECKS.due("undo() of none", train.undo(), STATE);
            CHECKS.due("the oldest aim that was kept", train.count(18), aimBehind(changes - MOST_STATES));
        }
    }

    /** "undo() removes the latest one": the next change takes its room, and only then the oldest is dropped. */
    private static void undoneStatesMakeRoom() {
        for (int changes = 1; changes <= 9; changes++) {
            for (int undone = 1; undone <= Math.min(changes, MOST_STATES); undone++) {
                BallastTrain train = withChanges(changes);
                int kept = Math.min(changes, MOST_STATES);
                for (int i = 1; i <= undone; i++) {
                    CHECKS.due("undo()", train.undo(), kept - i);
                }
                int oldest = aimBehind(changes - kept);
                for (int i = 1; i <= undone; i++) {
                    train.set(4, 20 + i);
                    CHECKS.due("states", train.count(12), kept - undone + i);
                }
                for (int left = kept - 1; left >= 0; left--) {
                    CHECKS.due("undo()", train.undo(), left);
                    int want = left > kept - undone ? 20 + left - kept + undone : aimBehind(changes - kept + left);
                    CHECKS.due("aim", train.count(18), want);
                }
                CHECKS.due("the oldest aim", train.count(18), oldest);
                CHECKS.due("undo() of none", train.undo(), STATE);
            }
        }
    }

    /** "Changes are the calls of the methods in the section 'changes' that return no error", on a busy train. */
    private static void everyChangeIsUndone() {
        undone("set", x -> x.set(1, 3));
        undone("setTrain of fewer", x -> x.setTrain(1));
        undone("setTrain of more", x -> x.setTrain(6));
        undone("load", x -> x.load(2, 200));
        undone("door, opened", x -> x.door(2, 2, 3));
        undone("door, closed", x -> x.door(0, 1, 0));
        undone("door, closed again", x -> x.door(1, 0, 0));
        undone("wish", x -> x.wish(3));
        undone("order", x -> x.order());
        undone("cancel of the first", x -> x.cancel(0));
        undone("cancel of the last", x -> x.cancel(2));
        undone("pass of one second", x -> x.pass(1));
        undone("pass of 200 seconds", x -> x.pass(200));
        undone("scrape", x -> x.scrape(1, 0, 2));
    }

    /** The other train undoes a wish: so both histories have lost their oldest state. */
    private static void undone(String name, Checks.Call change) {
        BallastTrain train = Trains.standing();
        BallastTrain spared = Trains.standing();
        CHECKS.due(name + " is no error", change.on(train) >= 0 ? 1 : 0, 1);
        CHECKS.due("states behind " + name, train.count(12), MOST_STATES);
        CHECKS.due("undo() of " + name, train.undo(), MOST_STATES - 1);
        spared.wish(0);
        CHECKS.due("undo()", spared.undo(), MOST_STATES - 1);
        CHECKS.same("behind undo() of " + name, train, spared);
    }

    /** "also if nothing becomes different". */
    private static void changesThatMakeNothingDifferent() {
        Checks.Call[] changes = {
            x -> x.set(4, 8), x -> x.setTrain(3), x -> x.door(0, 0, 0), x -> x.wish(0), x -> x.order(),
            x -> x.scrape(0, 0, 60)};
        for (int i = 0; i < changes.length; i++) {
            BallastTrain train = new BallastTrain();
            for (int states = 1; states <= 7; states++) {
                CHECKS.due("change " + i + " is no error", changes[i].on(train) >= 0 ? 1 : 0, 1);
                CHECKS.due("states behind change " + i, train.count(12), Math.min(states, MOST_STATES));
            }
            for (int left = MOST_STATES - 1; left >= 0; left--) {
                CHECKS.due("undo() of change " + i, train.undo(), left);
            }
            CHECKS.same("behind undo() of change " + i, train, new BallastTrain());
        }
        BallastTrain open = new BallastTrain();
        open.door(1, 1, 2);
        CHECKS.due("a door to the same level", open.door(1, 1, 2), 2);
        CHECKS.due("states", open.count(12), 2);
    }

    /** "A call that returns an error changes nothing": no state is recorded, and none is dropped. */
    private static void noErrorIsAState() {
        Checks.Call[] refused = {
            x -> x.set(5, 1), x -> x.setTrain(0), x -> x.load(0, 1), x -> x.load(3, 1), x -> x.door(0, 0, 4),
            x -> x.wish(4), x -> x.cancel(3), x -> x.pass(0), x -> x.scrape(0, 0, 0), x -> x.type(128)};
        for (Checks.Call call : refused) {
            BallastTrain train = Trains.standing();
            for (int i = 0; i < 7; i++) {
                CHECKS.due("an error", call.on(train) < 0 ? 1 : 0, 1);
            }
            CHECKS.same("behind seven errors", train, Trains.standing());
        }
    }

    /** The methods of the other sections are no changes. */
    private static void whatOnlyTellsIsNoState() {
        Checks.Call[] asked = {
            x -> x.fault(), x -> x.wagon(0, 0), x -> x.doorOf(0, 0, 0), x -> x.height(0, 0), x -> x.profile(0, 0),
            x -> x.lacking(0), x -> x.ordered(0, 0), x -> x.foretell(200, 0), x -> x.emptyAfter(),
            x -> x.count(0), x -> x.digest()};
        for (Checks.Call call : asked) {
            for (Checks.Maker maker : new Checks.Maker[] {BallastTrain::new, Trains::standing, Trains::going}) {
                BallastTrain train = maker.make();
                for (int i = 0; i < 7; i++) {
                    call.on(train);
                }
                CHECKS.same("behind seven questions", train, maker.make());
            }
        }
    }

    /** undo() is in the section "history": it records nothing, so it goes back further each time. */
    private static void undoIsNoState() {
        BallastTrain train = withChanges(3);
        CHECKS.due("undo()", train.undo(), 2);
        CHECKS.due("undo() of the one before", train.undo(), 1);
        CHECKS.due("aim", train.count(18), 1);
        CHECKS.due("set(4, 9)", train.set(4, 9), 1);
        CHECKS.due("undo() of the new one", train.undo(), 1);
        CHECKS.due("aim", train.count(18), 1);
    }

    /** "The text does not belong to a state." */
    private static void theTextDoesNotBelongToAState() {
        BallastTrain train = Trains.typed("@1v1;");
        train.order();
        train.wish(2);
        train.type('@');
        CHECKS.due("undo()", train.undo(), 1);
        CHECKS.due("length behind undo()", train.count(13), 6);
        CHECKS.due("fault behind undo()", train.fault(), 6);
        train.clearText();
        CHECKS.due("undo()", train.undo(), 0);
        CHECKS.due("length behind undo()", train.count(13), 0);
        CHECKS.due("orders behind undo()", train.count(5), 0);
        BallastTrain full = Trains.typed(" ".repeat(60));
        full.wish(1);
        full.undo();
        CHECKS.due("length of a full text behind undo()", full.count(13), 60);
        CHECKS.due("clearText() is no change", full.undo(), STATE);
    }

    /** P14: "Restores the latest state": the wagons that are no more, with what was in them. */
    private static void theTrainThatWasComesBack() {
        BallastTrain train = new BallastTrain();
        train.setTrain(6);
        train.load(5, 200);
        train.door(5, 2, 3);
        train.door(5, 2, 0);
        train.setTrain(1);
        CHECKS.due("wagon(5, 0)", train.wagon(5, 0), BallastTrain.BAD);
        CHECKS.due("undo()", train.undo(), 4);
        CHECKS.due("wagons", train.count(0), 6);
        CHECKS.due("load", train.wagon(5, 0), 200);
        CHECKS.due("level", train.doorOf(5, 2, 0), 3);
        CHECKS.due("rest", train.doorOf(5, 2, 1), 1);
        CHECKS.due("taken away", train.count(11), 0);
        train.undo();
        CHECKS.due("rest before it was closed", train.doorOf(5, 2, 1), BallastTrain.NONE);
        for (int i = 0; i < 3; i++) {
            train.undo();
        }
        CHECKS.same("behind all undo()s", train, new BallastTrain());
    }

    /** The same: time, jams and what is lost belong to a state, so pass() has room for its seconds again. */
    private static void theTimeThatWasComesBack() {
        BallastTrain train = Trains.atTime(9800);
        CHECKS.due("pass(199)", train.pass(199), -1);
        CHECKS.due("pass(1)", train.pass(1), BallastTrain.FULL);
        CHECKS.due("undo()", train.undo(), 5);
        CHECKS.due("time", train.count(4), 9800);
        CHECKS.due("pass(199) again", train.pass(199), -1);
        BallastTrain jam = new BallastTrain();
        jam.set(2, 0);
        jam.load(0, 200);
        jam.door(0, 0, 3);
        jam.door(0, 0, 0);
        jam.pass(1);
        CHECKS.due("jams", jam.count(6), 1);
        CHECKS.due("lost", jam.count(10), 3);
        jam.undo();
        CHECKS.due("jams behind undo()", jam.count(6), 0);
        CHECKS.due("lost behind undo()", jam.count(10), 0);
        CHECKS.due("units that left behind undo()", jam.wagon(0, 4), 0);
        CHECKS.due("rest behind undo()", jam.doorOf(0, 0, 1), 0);
    }

    /** "An object is used for at most 512 calls": the last of them still answer as the first ones. */
    private static void theLast512thCall() {
        BallastTrain train = new BallastTrain();
        int calls = 0;
        for (int i = 0; calls < MOST_CALLS - 2 * MOST_STATES; i++) {
            int aim = i % 61;
            CHECKS.due("set(4, " + aim + ") as the call " + calls, train.set(4, aim), i == 0 ? 8 : (i + 60) % 61);
            calls++;
        }
        int latest = (calls - 1) % 61;
        for (int left = MOST_STATES - 1; left >= 0; left--) {
            CHECKS.due("undo() as the call " + calls, train.undo(), left);
            CHECKS.due("aim as the call " + (calls + 1), train.count(18), latest - MOST_STATES + left);
            calls += 2;
        }
        CHECKS.due("calls", calls, MOST_CALLS);
    }
}
