/** Promise 12: pass, with the seven steps of a second. */
public final class SecondsTest {
    private static final Checks CHECKS = new Checks();

    public static void main(String[] args) {
        wrongSeconds();
        limitOfTime();
        speedAndPlace();
        fallingBallast();
        fallingBesideTheTrack();
        doorsShareALoad();
        slidingForward();
        slidingBack();
        shoulders();
        closingLate();
        allDoorsClose();
        jams();
        CHECKS.end();
    }

    private static void heights(BallastTrain train, int strip, int... want) {
        for (int cell = 0; cell < want.length; cell++) {
            CHECKS.due("height(" + cell + ", " + strip + ")", train.height(cell, strip), want[cell]);
        }
    }

    private static void wrongSeconds() {
        BallastTrain train = new BallastTrain();
        long before = train.digest();
        CHECKS.due("pass(0)", train.pass(0), BallastTrain.BAD);
        CHECKS.due("pass(-1)", train.pass(-1), BallastTrain.BAD);
        CHECKS.due("pass(201)", train.pass(201), BallastTrain.BAD);
        CHECKS.unchanged("wrong seconds", train, before);
        CHECKS.due("pass(200)", train.pass(200), -1);
        CHECKS.due("time", train.count(4), 200);
        CHECKS.due("states", train.count(12), 1);
    }

    private static void limitOfTime() {
        BallastTrain train = new BallastTrain();
        for (int i = 0; i < 49; i++) {
            train.pass(200);
        }
        CHECKS.due("time", train.count(4), 9800);
        long before = train.digest();
        CHECKS.due("pass above the last time", train.pass(200), BallastTrain.FULL);
        CHECKS.due("pass(201)", train.pass(201), BallastTrain.BAD);
        CHECKS.unchanged("pass above the last time", train, before);
        CHECKS.due("pass to the last time", train.pass(199), -1);
        CHECKS.due("time", train.count(4), 9999);
        CHECKS.due("pass(1) at the last time", train.pass(1), BallastTrain.FULL);
    }

    private static void speedAndPlace() {
        BallastTrain train = new BallastTrain();
        train.wish(3);
        int[] places = {0, 2, 5, 8};
        for (int place : places) {
            CHECKS.due("pass(1)", train.pass(1), place);
        }
        CHECKS.due("speed", train.count(2), 3);
        train.wish(1);
        CHECKS.due("slower", train.pass(1), 10);
        CHECKS.due("slower", train.pass(1), 11);
        train.wish(0);
        CHECKS.due("it stops", train.pass(1), 11);
        CHECKS.due("it stands", train.pass(10), 11);
        train.wish(3);
        CHECKS.due("the last place", train.pass(60), 99);
        CHECKS.due("speed at the last place", train.count(2), 3);
    }

    private static void fallingBallast() {
        BallastTrain train = new BallastTrain();
        train.load(1, 5);
        train.door(1, 1, 2);
        train.wish(1);
        train.pass(4);
        CHECKS.due("lost before the track", train.count(10), 5);
        train.wish(0);
        train.pass(1);
        train.load(1, 5);
        train.wish(1);
        CHECKS.due("place", train.pass(1), 4);
        heights(train, 1, 2, 0);
        CHECKS.due("place", train.pass(2), 6);
        heights(train, 1, 2, 2, 1, 0);
        CHECKS.due("units that left", train.wagon(1, 4), 10);
        CHECKS.due("load", train.wagon(1, 0), 0);
        CHECKS.due("the door is still open", train.doorOf(1, 1, 0), 2);
        CHECKS.due("on the track", train.count(9), 5);
        CHECKS.due("lost", train.count(10), 5);
    }

    private static void fallingBesideTheTrack() {
        BallastTrain train = Trains.standingAt(39, 10);
        train.door(0, 2, 1);
        train.pass(1);
        CHECKS.due("on the last cell", train.height(39, 2), 1);
        train.wish(1);
        train.pass(1);
        CHECKS.due("beyond the last cell", train.count(10), 1);
        CHECKS.due("on the last cell", train.height(39, 2), 1);
        CHECKS.due("load", train.wagon(0, 0), 8);
    }

    private static void doorsShareALoad() {
        BallastTrain train = Trains.standingAt(0, 4);
        train.door(0, 0, 1);
        train.door(0, 1, 2);
        train.door(0, 2, 3);
        train.pass(1);
        CHECKS.due("left", train.height(0, 0), 1);
        CHECKS.due("middle", train.height(0, 1), 2);
        CHECKS.due("right", train.height(0, 2), 1);
    }

    private static void slidingForward() {
        BallastTrain train = Trains.standingAt(0, 200);
        train.door(0, 1, 3);
        train.pass(1);
        heights(train, 1, 3, 0);
        train.pass(1);
        heights(train, 1, 5, 1, 0);
        train.pass(3);
        heights(train, 1, 11, 4, 0);
        train.pass(1);
        heights(train, 1, 13, 4, 1, 0);
        heights(train, 0, 0, 0);
        heights(train, 2, 0, 0);
    }

    private static void slidingBack() {
        BallastTrain train = Trains.standingAt(1, 200);
        train.set(0, 1);
        train.door(0, 1, 3);
        train.pass(1);
        heights(train, 1, 1, 1, 1, 0);
        train.set(0, 4);
        train.pass(1);
        heights(train, 1, 1, 4, 1, 0);
        BallastTrain last = Trains.standingAt(39, 200);
        last.door(0, 1, 3);
        last.pass(2);
        CHECKS.due("the last cell slides back", last.height(38, 1), 1);
        CHECKS.due("and keeps the others", last.height(39, 1), 5);
    }

    private static void shoulders() {
        BallastTrain train = Trains.standingAt(0, 200);
        train.set(1, 2);
        for (int door = 0; door < 3; door++) {
            train.door(0, door, 3);
        }
        train.pass(1);
        heights(train, 0, 2, 0);
        heights(train, 1, 3, 0);
        heights(train, 2, 2, 0);
        CHECKS.due("lost", train.count(10), 2);
        CHECKS.due("on the track", train.count(9), 7);
        train.set(1, 1);
        heights(train, 0, 2, 0);
        train.set(0, 1);
        train.door(0, 1, 1);
        train.pass(1);
        heights(train, 0, 1, 1, 0);
        heights(train, 1, 3, 1, 0);
        CHECKS.due("lost behind the slide", train.count(10), 8);
    }

    private static void closingLate() {
        BallastTrain train = Trains.standingAt(0, 90);
        train.set(2, 2);
        train.door(0, 1, 1);
        train.door(0, 1, 0);
        for (int rest = 1; rest >= 0; rest--) {
            train.pass(1);
            CHECKS.due("level as long as it is closing", train.doorOf(0, 1, 0), 1);
            CHECKS.due("rest", train.doorOf(0, 1, 1), rest);
        }
        train.pass(1);
        CHECKS.due("level", train.doorOf(0, 1, 0), 0);
        CHECKS.due("rest", train.doorOf(0, 1, 1), BallastTrain.NONE);
        CHECKS.due("it let ballast fall for three seconds", train.wagon(0, 4), 3);
        CHECKS.due("no jam", train.count(6), 0);
    }

    private static void allDoorsClose() {
        BallastTrain train = new BallastTrain();
        train.setTrain(6);
        for (int wagon = 0; wagon < 6; wagon++) {
            for (int door = 0; door < 3; door++) {
                train.door(wagon, door, 3);
                train.door(wagon, door, 0);
            }
        }
        train.pass(1);
        for (int wagon = 0; wagon < 6; wagon++) {
            CHECKS.due("doors of " + wagon + " that are closing", train.wagon(wagon, 3), 3);
        }
        train.pass(1);
        for (int wagon = 0; wagon < 6; wagon++) {
            CHECKS.due("doors of " + wagon + " that are closing", train.wagon(wagon, 3), 0);
            CHECKS.due("levels of " + wagon, train.wagon(wagon, 2), 0);
        }
    }

    private static void jams() {
        BallastTrain train = Trains.standingAt(0, 104);
        train.set(2, 0);
        train.door(0, 1, 3);
        train.door(0, 1, 0);
        train.pass(1);
        CHECKS.due("a load of 101 jams", train.doorOf(0, 1, 0), 1);
        CHECKS.due("the door is not closing", train.doorOf(0, 1, 1), BallastTrain.NONE);
        CHECKS.due("jams", train.count(6), 1);
        train.door(0, 1, 0);
        train.pass(1);
        CHECKS.due("a load of 100 does not", train.doorOf(0, 1, 0), 0);
        CHECKS.due("jams", train.count(6), 1);
        train.set(3, 0);
        train.door(0, 0, 2);
        train.door(0, 2, 2);
        train.door(0, 0, 0);
        train.door(0, 2, 0);
        train.pass(1);
        CHECKS.due("two doors jam", train.count(6), 3);
        CHECKS.due("a jam leaves the level 1", train.doorOf(0, 2, 0), 1);
        train.setTrain(1);
        CHECKS.due("jams since the beginning", train.count(6), 3);
    }
}
