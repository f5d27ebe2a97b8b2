/** Promises 5 to 9, 15 and 16: set, setTrain, load, door, wish, wagon, doorOf. */
public final class TrainTest {
    private static final Checks CHECKS = new Checks();

    public static void main(String[] args) {
        settings();
        newTrain();
        loading();
        doors();
        wishes();
        propertiesOfAWagon();
        propertiesOfADoor();
        CHECKS.end();
    }

    private static void settings() {
        int[] first = {4, 12, 1, 100, 8};
        int[] least = {1, 1, 0, 0, 0};
        int[] most = {20, 60, 9, 200, 60};
        for (int what = 0; what < 5; what++) {
            BallastTrain train = new BallastTrain();
            long before = train.digest();
            CHECKS.due("set below the range of " + what, train.set(what, least[what] - 1), BallastTrain.BAD);
            CHECKS.due("set above the range of " + what, train.set(what, most[what] + 1), BallastTrain.BAD);
            CHECKS.unchanged("set out of range", train, before);
            CHECKS.due("set to the least", train.set(what, least[what]), first[what]);
            CHECKS.due("set to the most", train.set(what, most[what]), least[what]);
            CHECKS.due("set to the same", train.set(what, most[what]), most[what]);
            CHECKS.due("count of it", train.count(14 + what), most[what]);
            CHECKS.due("states", train.count(12), 3);
        }
        BallastTrain train = new BallastTrain();
        CHECKS.due("set(-1, 5)", train.set(-1, 5), BallastTrain.BAD);
        CHECKS.due("set(5, 5)", train.set(5, 5), BallastTrain.BAD);
        CHECKS.due("set(MAX_VALUE, 5)", train.set(Integer.MAX_VALUE, 5), BallastTrain.BAD);
        CHECKS.due("states", train.count(12), 0);
    }

    private static void newTrain() {
        BallastTrain train = Trains.standingAt(3, 100);
        train.door(0, 1, 3);
        train.pass(2);
        train.door(0, 0, 2);
        train.door(0, 0, 0);
        train.wish(2);
        train.pass(1);
        Trains.typed(train, "@30v1;").order();
        int time = train.count(4);
        int track = train.count(9);
        CHECKS.due("units on the track", track, 11);
        long before = train.digest();
        CHECKS.due("setTrain(0)", train.setTrain(0), BallastTrain.BAD);
        CHECKS.due("setTrain(7)", train.setTrain(7), BallastTrain.BAD);
        CHECKS.unchanged("setTrain(7)", train, before);
        CHECKS.due("setTrain(6)", train.setTrain(6), 89);
        CHECKS.due("wagons", train.count(0), 6);
        CHECKS.due("place", train.count(1), -1);
        CHECKS.due("speed", train.count(2), 0);
        CHECKS.due("wish", train.count(3), 0);
        CHECKS.due("time", train.count(4), time);
        CHECKS.due("orders", train.count(5), 1);
        CHECKS.due("in wagons", train.count(8), 0);
        CHECKS.due("on the track", train.count(9), track);
        CHECKS.due("taken away", train.count(11), 89);
        for (int what = 0; what < 5; what++) {
            CHECKS.due("wagon(0, " + what + ")", train.wagon(0, what), what == 1 ? -1 : 0);
        }
        CHECKS.due("the door is closed", train.doorOf(0, 1, 0), 0);
        CHECKS.due("the door is not closing", train.doorOf(0, 0, 1), BallastTrain.NONE);
        CHECKS.due("setTrain(1) of an empty train", train.setTrain(1), 0);
        CHECKS.due("wagon 1 is no more", train.wagon(1, 0), BallastTrain.BAD);
        CHECKS.due("taken away, still", train.count(11), 89);
    }

    private static void loading() {
        BallastTrain train = new BallastTrain();
        CHECKS.due("load(2, 1)", train.load(2, 1), 1);
        CHECKS.due("load(2, 150)", train.load(2, 150), 151);
        CHECKS.due("in wagons", train.count(8), 151);
        CHECKS.due("loaded", train.count(7), 151);
        long before = train.digest();
        CHECKS.due("load(2, 50)", train.load(2, 50), BallastTrain.FULL);
        CHECKS.due("load(3, 1)", train.load(3, 1), BallastTrain.BAD);
        CHECKS.due("load(-1, 1)", train.load(-1, 1), BallastTrain.BAD);
        CHECKS.due("load(0, 0)", train.load(0, 0), BallastTrain.BAD);
        CHECKS.due("load(0, -5)", train.load(0, -5), BallastTrain.BAD);
        CHECKS.due("load(2, 201)", train.load(2, 201), BallastTrain.BAD);
        CHECKS.due("load(2, MAX_VALUE)", train.load(2, Integer.MAX_VALUE), BallastTrain.BAD);
        CHECKS.unchanged("wrong loads", train, before);
        CHECKS.due("load(2, 49)", train.load(2, 49), 200);
        train.wish(1);
        CHECKS.due("load before it starts", train.load(0, 10), 10);
        train.pass(1);
        before = train.digest();
        CHECKS.due("load at speed", train.load(0, 10), BallastTrain.STATE);
        CHECKS.due("load a full wagon at speed", train.load(2, 1), BallastTrain.STATE);
        CHECKS.due("load(3, 1) at speed", train.load(3, 1), BallastTrain.BAD);
        CHECKS.unchanged("load at speed", train, before);
        train.wish(0);
        CHECKS.due("load as long as it goes", train.load(0, 10), BallastTrain.STATE);
        train.pass(1);
        CHECKS.due("load when it stands", train.load(0, 10), 20);
    }

    private static void doors() {
        BallastTrain train = new BallastTrain();
        CHECKS.due("door(1, 2, 3)", train.door(1, 2, 3), 0);
        CHECKS.due("door(1, 2, 1)", train.door(1, 2, 1), 3);
        CHECKS.due("door(1, 2, 0)", train.door(1, 2, 0), 1);
        CHECKS.due("it has its level as long as it is closing", train.doorOf(1, 2, 0), 1);
        CHECKS.due("its rest is the lag", train.doorOf(1, 2, 1), 1);
        train.set(2, 7);
        CHECKS.due("a new lag leaves the rest", train.doorOf(1, 2, 1), 1);
        CHECKS.due("close it again", train.door(1, 2, 0), 1);
        CHECKS.due("its rest is the lag again", train.doorOf(1, 2, 1), 7);
        CHECKS.due("open it again", train.door(1, 2, 2), 1);
        CHECKS.due("it is closing no longer", train.doorOf(1, 2, 1), BallastTrain.NONE);
        int states = train.count(12);
        train.undo();
        CHECKS.due("close a closed door", train.door(0, 0, 0), 0);
        CHECKS.due("it is not closing", train.doorOf(0, 0, 1), BallastTrain.NONE);
        CHECKS.due("which is a change", train.count(12), states);
        long before = train.digest();
        CHECKS.due("door(3, 0, 1)", train.door(3, 0, 1), BallastTrain.BAD);
        CHECKS.due("door(-1, 0, 1)", train.door(-1, 0, 1), BallastTrain.BAD);
        CHECKS.due("door(0, -1, 1)", train.door(0, -1, 1), BallastTrain.BAD);
        CHECKS.due("door(0, 3, 1)", train.door(0, 3, 1), BallastTrain.BAD);
        CHECKS.due("door(0, 0, -1)", train.door(0, 0, -1), BallastTrain.BAD);
        CHECKS.due("door(0, 0, 4)", train.door(0, 0, 4), BallastTrain.BAD);
        CHECKS.unchanged("wrong doors", train, before);
    }

    private static void wishes() {
        BallastTrain train = new BallastTrain();
        CHECKS.due("wish(3)", train.wish(3), 0);
        CHECKS.due("wish(0)", train.wish(0), 3);
        CHECKS.due("wish(2)", train.wish(2), 0);
        long before = train.digest();
        CHECKS.due("wish(4)", train.wish(4), BallastTrain.BAD);
        CHECKS.due("wish(-1)", train.wish(-1), BallastTrain.BAD);
        CHECKS.unchanged("wrong wishes", train, before);
        CHECKS.due("the wish", train.count(3), 2);
        CHECKS.due("the speed", train.count(2), 0);
        CHECKS.due("states", train.count(12), 3);
    }

    private static void propertiesOfAWagon() {
        BallastTrain train = new BallastTrain();
        train.setTrain(6);
        CHECKS.due("cell below wagon 5", train.wagon(5, 1), -21);
        train.load(1, 20);
        train.door(1, 0, 1);
        train.door(1, 1, 2);
        train.door(1, 2, 3);
        train.door(1, 2, 0);
        CHECKS.due("load", train.wagon(1, 0), 20);
        CHECKS.due("levels", train.wagon(1, 2), 6);
        CHECKS.due("closing doors", train.wagon(1, 3), 1);
        train.pass(1);
        CHECKS.due("load", train.wagon(1, 0), 14);
        CHECKS.due("units that left", train.wagon(1, 4), 6);
        train.door(1, 1, 0);
        train.door(1, 0, 0);
        CHECKS.due("closing doors", train.wagon(1, 3), 3);
        train.pass(5);
        CHECKS.due("levels", train.wagon(1, 2), 0);
        CHECKS.due("closing doors", train.wagon(1, 3), 0);
        CHECKS.due("units that left", train.wagon(1, 4), 15);
        CHECKS.due("units that left wagon 0", train.wagon(0, 4), 0);
        CHECKS.due("wagon(6, 0)", train.wagon(6, 0), BallastTrain.BAD);
        CHECKS.due("wagon(-1, 0)", train.wagon(-1, 0), BallastTrain.BAD);
        CHECKS.due("wagon(0, -1)", train.wagon(0, -1), BallastTrain.BAD);
        CHECKS.due("wagon(0, 5)", train.wagon(0, 5), BallastTrain.BAD);
        train.setTrain(2);
        CHECKS.due("wagon(2, 0) of two wagons", train.wagon(2, 0), BallastTrain.BAD);
        CHECKS.due("wagon(1, 4) of a new train", train.wagon(1, 4), 0);
    }

    private static void propertiesOfADoor() {
        BallastTrain train = new BallastTrain();
        train.door(2, 1, 3);
        CHECKS.due("doorOf(2, 1, 0)", train.doorOf(2, 1, 0), 3);
        CHECKS.due("doorOf(2, 1, 1)", train.doorOf(2, 1, 1), BallastTrain.NONE);
        CHECKS.due("doorOf(2, 0, 0)", train.doorOf(2, 0, 0), 0);
        CHECKS.due("doorOf(2, 2, 0)", train.doorOf(2, 2, 0), 0);
        CHECKS.due("doorOf(3, 0, 0)", train.doorOf(3, 0, 0), BallastTrain.BAD);
        CHECKS.due("doorOf(-1, 0, 0)", train.doorOf(-1, 0, 0), BallastTrain.BAD);
        CHECKS.due("doorOf(0, 3, 0)", train.doorOf(0, 3, 0), BallastTrain.BAD);
        CHECKS.due("doorOf(0, -1, 0)", train.doorOf(0, -1, 0), BallastTrain.BAD);
        CHECKS.due("doorOf(0, 0, 2)", train.doorOf(0, 0, 2), BallastTrain.BAD);
        CHECKS.due("doorOf(0, 0, -1)", train.doorOf(0, 0, -1), BallastTrain.BAD);
    }
}
