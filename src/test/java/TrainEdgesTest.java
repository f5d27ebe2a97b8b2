/** The edges that the promises 5 to 9 name, with what "Track", "Train" and "Errors" say of them. */
public final class TrainEdgesTest {
    private static final int BAD = BallastTrain.BAD, STATE = BallastTrain.STATE, FULL = BallastTrain.FULL;
    private static final int NONE = BallastTrain.NONE;
    private static final int[] FAR = {Integer.MIN_VALUE, -65536, 65536, Integer.MAX_VALUE};
    private static final Checks CHECKS = new Checks();

    public static void main(String[] args) {
        slopeIs1To20();
        limitIs1To60();
        lagIs0To9();
        jamIs0To200();
        aimIs0To60();
        settingsAre0To4();
        setToTheSameIsAChange();
        wagonsAre1To6();
        aNewTrainIsEmpty();
        aNewTrainHasClosedDoors();
        aNewTrainStandsAtMinus1();
        whatWasInTheWagonsIsTakenAway();
        trackOrdersAndTimeStay();
        loadNamesAWagon();
        unitsAre1To200();
        loadAtSpeedIsRefused();
        aLoadIsAtMost200();
        errorsOfLoadInTheirOrder();
        doorNamesAWagon();
        doorNamesADoor();
        levelsAre0To3();
        closingAClosedDoorDoesNothing();
        closingTakesTheLag();
        closingAgainTakesTheLagAgain();
        openingEndsTheClosing();
        speedsAre0To3();
        aWishMovesNothingAtOnce();
        CHECKS.end();
    }

    private static void refused(String name, Checks.Call call, int error) {
        CHECKS.changesNothing(name + " on a standing train", Trains::standing, call, error);
        CHECKS.changesNothing(name + " on a going train", Trains::going, call, error);
        CHECKS.changesNothing(name + " on a new train", BallastTrain::new, call, error);
    }

    /** P5: the edges of a setting's range, the values on either side of them, and values far from it. */
    private static void range(int what, int first, int least, int most) {
        for (int value : new int[] {least, least + 1, first, most - 1, most}) {
            BallastTrain train = new BallastTrain();
            String name = "set(" + what + ", " + value + ")";
            CHECKS.due(name, train.set(what, value), first);
            for (int other = 0; other <= 4; other++) {
                int want = other == what ? value : new int[] {4, 12, 1, 100, 8}[other];
                CHECKS.due("count of the setting " + other + " behind " + name, train.count(14 + other), want);
            }
            CHECKS.due("states behind " + name, train.count(12), 1);
            CHECKS.due(name + " again", train.set(what, value), value);
        }
        refused("set(" + what + ", too small)", x -> x.set(what, least - 1), BAD);
        refused("set(" + what + ", too large)", x -> x.set(what, most + 1), BAD);
        for (int value : FAR) {
            refused("set(" + what + ", " + value + ")", x -> x.set(what, value), BAD);
        }
    }

    /** "0 the slope, 1 to 20 (4)". */
    private static void slopeIs1To20() {
        range(0, 4, 1, 20);
    }

    /** "1 the limit of shoulders, 1 to 60 (12)". */
    private static void limitIs1To60() {
        range(1, 12, 1, 60);
    }

    /** "2 the lag of doors, 0 to 9 (1)". */
    private static void lagIs0To9() {
        range(2, 1, 0, 9);
    }

    /** "3 the jam, 0 to 200 (100)". */
    private static void jamIs0To200() {
        range(3, 100, 0, 200);
    }

    /** "4 the aim, 0 to 60 (8)". */
    private static void aimIs0To60() {
        range(4, 8, 0, 60);
    }

    /** P5: "what: its number"; "BAD: an argument ... names something that does not exist". */
    private static void settingsAre0To4() {
        for (int value : new int[] {0, 1, 5, 200}) {
            refused("set(-1, " + value + ")", x -> x.set(-1, value), BAD);
            refused("set(5, " + value + ")", x -> x.set(5, value), BAD);
            for (int what : FAR) {
                refused("set(" + what + ", " + value + ")", x -> x.set(what, value), BAD);
            }
        }
    }

    /** "Changes are the calls ... that return no error, also if nothing becomes different". */
    private static void setToTheSameIsAChange() {
        BallastTrain train = new BallastTrain();
        CHECKS.due("set(1, 12)", train.set(1, 12), 12);
        CHECKS.due("states", train.count(12), 1);
        CHECKS.due("undo()", train.undo(), 0);
        CHECKS.same("behind undo()", train, new BallastTrain());
    }

    /** P6: "1 to 6", and as many wagons can be named then. */
    private static void wagonsAre1To6() {
        for (int wagons = 1; wagons <= 6; wagons++) {
            for (BallastTrain train : new BallastTrain[] {new BallastTrain(), Trains.standing(), Trains.going()}) {
                CHECKS.due("setTrain(" + wagons + ") is no error", train.setTrain(wagons) >= 0 ? 1 : 0, 1);
                CHECKS.due("count(0)", train.count(0), wagons);
                CHECKS.due("the last wagon", train.wagon(wagons - 1, 0), 0);
                CHECKS.due("the one behind it", train.wagon(wagons, 0), BAD);
                CHECKS.due("load of the last wagon", train.load(wagons - 1, 200), 200);
                CHECKS.due("load of the one behind it", train.load(wagons, 1), BAD);
            }
        }
        refused("setTrain(0)", x -> x.setTrain(0), BAD);
        refused("setTrain(7)", x -> x.setTrain(7), BAD);
        refused("setTrain(-1)", x -> x.setTrain(-1), BAD);
        for (int wagons : FAR) {
            refused("setTrain(" + wagons + ")", x -> x.setTrain(wagons), BAD);
        }
    }

    /** Six full wagons with all doors open, some of them closing, on their way. */
    private static BallastTrain sixWagons() {
        BallastTrain train = new BallastTrain();
        train.setTrain(6);
        train.set(2, 9);
        for (int wagon = 0; wagon < 6; wagon++) {
            train.load(wagon, 200);
            for (int door = 0; door < 3; door++) {
                train.door(wagon, door, 3);
            }
            train.door(wagon, wagon % 3, 0);
        }
        train.wish(3);
        train.pass(4);
        return train;
    }

    /** P6: "empty": the loads of all wagons, and what has left them since. */
    private static void aNewTrainIsEmpty() {
        for (int wagons = 1; wagons <= 6; wagons++) {
            BallastTrain train = sixWagons();
            CHECKS.due("units that left the last wagon", train.wagon(5, 4), 36);
            train.setTrain(wagons);
            CHECKS.due("in wagons", train.count(8), 0);
            CHECKS.due("emptyAfter()", train.emptyAfter(), 0);
            for (int wagon = 0; wagon < wagons; wagon++) {
                CHECKS.due("load", train.wagon(wagon, 0), 0);
                CHECKS.due("units that left", train.wagon(wagon, 4), 0);
            }
            train.setTrain(6);
            CHECKS.due("load of a wagon that comes again", train.wagon(5, 0), 0);
            CHECKS.due("units that left it", train.wagon(5, 4), 0);
        }
    }

    /** P6: "with closed doors": none open, none closing. */
    private static void aNewTrainHasClosedDoors() {
        for (int wagons = 1; wagons <= 6; wagons++) {
            BallastTrain train = sixWagons();
            train.setTrain(wagons);
            closed(train, wagons);
            train.setTrain(6);
            closed(train, 6);
            train.pass(1);
            closed(train, 6);
        }
    }

    private static void closed(BallastTrain train, int wagons) {
        for (int wagon = 0; wagon < wagons; wagon++) {
            CHECKS.due("levels", train.wagon(wagon, 2), 0);
            CHECKS.due("closing doors", train.wagon(wagon, 3), 0);
            for (int door = 0; door < 3; door++) {
                CHECKS.due("level", train.doorOf(wagon, door, 0), 0);
                CHECKS.due("rest", train.doorOf(wagon, door, 1), NONE);
            }
        }
    }

    /** P6: "its place becomes -1, speed and wish become 0", so that it stays there. */
    private static void aNewTrainStandsAtMinus1() {
        BallastTrain train = sixWagons();
        CHECKS.due("place before", train.count(1), 8);
        CHECKS.due("speed before", train.count(2), 3);
        CHECKS.due("wish before", train.count(3), 3);
        train.setTrain(6);
        CHECKS.due("place", train.count(1), -1);
        CHECKS.due("speed", train.count(2), 0);
        CHECKS.due("wish", train.count(3), 0);
        CHECKS.due("pass(9)", train.pass(9), -1);
    }

    /** P6: "What was in the wagons before is taken away"; "Returns the units that are taken away". */
    private static void whatWasInTheWagonsIsTakenAway() {
        BallastTrain train = new BallastTrain();
        CHECKS.due("setTrain(6) with nothing in it", train.setTrain(6), 0);
        CHECKS.due("taken away", train.count(11), 0);
        CHECKS.due("which is a change", train.count(12), 1);
        train.load(5, 1);
        CHECKS.due("setTrain(6) with one unit in it", train.setTrain(6), 1);
        CHECKS.due("taken away", train.count(11), 1);
        for (int wagon = 0; wagon < 6; wagon++) {
            train.load(wagon, 200);
        }
        CHECKS.due("setTrain(1) with all that fits", train.setTrain(1), 1200);
        CHECKS.due("taken away", train.count(11), 1201);
        CHECKS.due("lost", train.count(10), 0);
        CHECKS.due("setTrain(1) again", train.setTrain(1), 0);
        CHECKS.due("loaded", train.count(7), 1201);
    }

    /** P6: "Track, orders and time stay." */
    private static void trackOrdersAndTimeStay() {
        BallastTrain train = Trains.going();
        int[] numbers = {4, 5, 6, 7, 9, 10, 13, 14, 15, 16, 17, 18};
        int[] before = new int[numbers.length];
        for (int i = 0; i < numbers.length; i++) {
            before[i] = train.count(numbers[i]);
        }
        int[] heights = new int[120];
        for (int i = 0; i < 120; i++) {
            heights[i] = train.height(i / 3, i % 3);
        }
        CHECKS.due("orders before", train.count(5), 3);
        CHECKS.due("something lies on the track", train.count(9) > 0 ? 1 : 0, 1);
        train.setTrain(1);
        for (int i = 0; i < numbers.length; i++) {
            CHECKS.due("count(" + numbers[i] + ")", train.count(numbers[i]), before[i]);
        }
        for (int i = 0; i < 120; i++) {
            CHECKS.due("height(" + i / 3 + ", " + i % 3 + ")", train.height(i / 3, i % 3), heights[i]);
        }
        CHECKS.due("ordered(1, 0)", train.ordered(1, 0), 39);
        CHECKS.due("ordered(1, 2), though there is no wagon 5", train.ordered(1, 2), 5);
    }

    /** P7: "wagon: the wagon", from 0 to the last of the train. */
    private static void loadNamesAWagon() {
        for (int wagons = 1; wagons <= 6; wagons++) {
            int last = wagons - 1;
            CHECKS.due("load(0, 1)", withWagons(wagons).load(0, 1), 1);
            CHECKS.due("load of the last wagon", withWagons(wagons).load(last, 1), 1);
            int there = wagons;
            CHECKS.changesNothing("load(" + wagons + ", 1)", () -> withWagons(there), x -> x.load(there, 1), BAD);
            CHECKS.changesNothing("load(-1, 1)", () -> withWagons(there), x -> x.load(-1, 1), BAD);
        }
        for (int wagon : FAR) {
            refused("load(" + wagon + ", 1)", x -> x.load(wagon, 1), BAD);
        }
    }

    private static BallastTrain withWagons(int wagons) {
        BallastTrain train = new BallastTrain();
        train.setTrain(wagons);
        return train;
    }

    /** P7: "units: 1 to 200". */
    private static void unitsAre1To200() {
        for (int units : new int[] {1, 2, 199, 200}) {
            BallastTrain train = new BallastTrain();
            CHECKS.due("load(1, " + units + ")", train.load(1, units), units);
            CHECKS.due("its load", train.wagon(1, 0), units);
            CHECKS.due("the load before it", train.wagon(0, 0), 0);
            CHECKS.due("the load behind it", train.wagon(2, 0), 0);
            CHECKS.due("loaded", train.count(7), units);
            CHECKS.due("in wagons", train.count(8), units);
        }
        for (int units : new int[] {0, -1, -200, 201}) {
            refused("load(2, " + units + ")", x -> x.load(2, units), BAD);
        }
        for (int units : FAR) {
            refused("load(2, " + units + ")", x -> x.load(2, units), BAD);
        }
    }

    /** P7: "STATE if the speed is not 0", for each speed, whatever the wish. */
    private static void loadAtSpeedIsRefused() {
        for (int speed = 1; speed <= 3; speed++) {
            int wish = speed;
            Checks.Maker going = () -> {
                BallastTrain train = new BallastTrain();
                train.wish(wish);
                train.pass(wish);
                return train;
            };
            CHECKS.due("speed", going.make().count(2), speed);
            CHECKS.changesNothing("load at the speed " + speed, going, x -> x.load(0, 1), STATE);
            CHECKS.changesNothing("load at the speed " + speed + " with the wish 0", () -> {
                BallastTrain train = going.make();
                train.wish(0);
                return train;
            }, x -> x.load(0, 1), STATE);
        }
        BallastTrain train = new BallastTrain();
        train.wish(3);
        CHECKS.due("load at the speed 0 with the wish 3", train.load(0, 1), 1);
        train.pass(1);
        CHECKS.due("load at the speed 1", train.load(0, 1), STATE);
        train.wish(0);
        train.pass(1);
        CHECKS.due("load at the speed 0 again", train.load(0, 1), 2);
        train.wish(3);
        train.pass(60);
        CHECKS.due("load at the last place, at the speed 3", train.load(0, 1), STATE);
    }

    /** P7: "FULL if its load would be above 200". */
    private static void aLoadIsAtMost200() {
        int[] befores = {1, 100, 199, 200};
        for (int before : befores) {
            for (int units : new int[] {199 - before, 200 - before}) {
                if (units > 0) {
                    BallastTrain train = new BallastTrain();
                    train.load(0, before);
                    CHECKS.due(before + " and " + units, train.load(0, units), before + units);
                    CHECKS.due("loaded", train.count(7), before + units);
                }
            }
            int many = 201 - before;
            Checks.Maker maker = () -> {
                BallastTrain train = new BallastTrain();
                train.load(0, before);
                return train;
            };
            CHECKS.changesNothing(before + " and " + many, maker, x -> x.load(0, many), FULL);
            CHECKS.changesNothing(before + " and 200", maker, x -> x.load(0, 200), FULL);
            CHECKS.due("another wagon takes them", maker.make().load(1, 200), 200);
        }
        CHECKS.changesNothing("load of a full wagon", Trains::standing, x -> x.load(0, 1), FULL);
        CHECKS.changesNothing("load of 22 units beside 179", Trains::standing, x -> x.load(1, 22), FULL);
        CHECKS.due("load of 21 units beside 179", Trains.standing().load(1, 21), 200);
    }

    /** "If several errors apply, the one that comes first in this list is returned." */
    private static void errorsOfLoadInTheirOrder() {
        Checks.Maker fullAtSpeed = () -> {
            BallastTrain train = new BallastTrain();
            train.load(0, 200);
            train.wish(1);
            train.pass(1);
            return train;
        };
        CHECKS.changesNothing("STATE before FULL", fullAtSpeed, x -> x.load(0, 1), STATE);
        CHECKS.changesNothing("BAD units before STATE", fullAtSpeed, x -> x.load(1, 0), BAD);
        CHECKS.changesNothing("BAD wagon before STATE", fullAtSpeed, x -> x.load(3, 1), BAD);
        CHECKS.changesNothing("BAD before STATE and FULL", fullAtSpeed, x -> x.load(0, 201), BAD);
        CHECKS.changesNothing("BAD before FULL", Trains::standing, x -> x.load(0, 201), BAD);
    }

    /** P8: "wagon: the wagon". */
    private static void doorNamesAWagon() {
        for (int wagons = 1; wagons <= 6; wagons++) {
            int there = wagons;
            CHECKS.due("door(0, 0, 1)", withWagons(wagons).door(0, 0, 1), 0);
            CHECKS.due("a door of the last wagon", withWagons(wagons).door(wagons - 1, 2, 1), 0);
            for (int level = 0; level <= 3; level++) {
                int to = level;
                CHECKS.changesNothing("door(" + wagons + ", 0, " + level + ")", () -> withWagons(there),
                        x -> x.door(there, 0, to), BAD);
                CHECKS.changesNothing("door(-1, 2, " + level + ")", () -> withWagons(there),
                        x -> x.door(-1, 2, to), BAD);
            }
        }
        for (int wagon : FAR) {
            refused("door(" + wagon + ", 0, 1)", x -> x.door(wagon, 0, 1), BAD);
        }
    }

    /** P8: "door: 0 to 2"; the doors beside it stay as they are, also those of the wagons beside it. */
    private static void doorNamesADoor() {
        for (int wagon = 0; wagon < 3; wagon++) {
            for (int door = 0; door < 3; door++) {
                BallastTrain train = new BallastTrain();
                CHECKS.due("door(" + wagon + ", " + door + ", 2)", train.door(wagon, door, 2), 0);
                for (int i = 0; i < 9; i++) {
                    int want = i == 3 * wagon + door ? 2 : 0;
                    CHECKS.due("doorOf(" + i / 3 + ", " + i % 3 + ", 0)", train.doorOf(i / 3, i % 3, 0), want);
                }
            }
        }
        for (int level = 0; level <= 3; level++) {
            int to = level;
            refused("door(1, -1, " + level + ")", x -> x.door(1, -1, to), BAD);
            refused("door(1, 3, " + level + ")", x -> x.door(1, 3, to), BAD);
        }
        for (int door : FAR) {
            refused("door(0, " + door + ", 1)", x -> x.door(0, door, 1), BAD);
        }
    }

    /** P8: "1 to 3 to open it, 0 to close it"; "Returns the level before". */
    private static void levelsAre0To3() {
        for (int before = 0; before <= 3; before++) {
            for (int level = 0; level <= 3; level++) {
                BallastTrain train = new BallastTrain();
                train.door(1, 1, before);
                String name = "door(1, 1, " + level + ") at the level " + before;
                CHECKS.due(name, train.door(1, 1, level), before);
                CHECKS.due("level behind " + name, train.doorOf(1, 1, 0), level == 0 ? before : level);
                CHECKS.due("rest behind " + name, train.doorOf(1, 1, 1), level == 0 && before != 0 ? 1 : NONE);
                CHECKS.due("states behind " + name, train.count(12), 2);
            }
        }
        refused("door(0, 1, -1)", x -> x.door(0, 1, -1), BAD);
        refused("door(0, 1, 4)", x -> x.door(0, 1, 4), BAD);
        for (int level : FAR) {
            refused("door(0, 1, " + level + ")", x -> x.door(0, 1, level), BAD);
        }
    }

    /** "if its level is not 0 ...; otherwise nothing happens"; P8: a change all the same. */
    private static void closingAClosedDoorDoesNothing() {
        for (int lag : new int[] {0, 1, 9}) {
            BallastTrain train = new BallastTrain();
            train.set(2, lag);
            CHECKS.due("door(0, 0, 0)", train.door(0, 0, 0), 0);
            CHECKS.due("rest", train.doorOf(0, 0, 1), NONE);
            CHECKS.due("closing doors", train.wagon(0, 3), 0);
            CHECKS.due("states", train.count(12), 2);
            train.undo();
            BallastTrain other = new BallastTrain();
            other.set(2, lag);
            CHECKS.same("behind undo()", train, other);
        }
    }

    /** "it is closing, and its rest is the lag", from the least lag to the greatest. */
    private static void closingTakesTheLag() {
        for (int lag = 0; lag <= 9; lag++) {
            for (int level = 1; level <= 3; level++) {
                BallastTrain train = new BallastTrain();
                train.set(2, lag);
                train.door(2, 2, level);
                CHECKS.due("door(2, 2, 0)", train.door(2, 2, 0), level);
                CHECKS.due("level as long as it is closing", train.doorOf(2, 2, 0), level);
                CHECKS.due("rest with the lag " + lag, train.doorOf(2, 2, 1), lag);
                CHECKS.due("closing doors", train.wagon(2, 3), 1);
            }
        }
    }

    /** "(also if it was closing already)": also with a rest of 0, and with a lag that has become smaller. */
    private static void closingAgainTakesTheLagAgain() {
        BallastTrain train = new BallastTrain();
        train.set(2, 5);
        train.door(0, 0, 3);
        train.door(0, 0, 0);
        for (int rest = 4; rest >= 0; rest--) {
            train.pass(1);
            CHECKS.due("rest", train.doorOf(0, 0, 1), rest);
        }
        CHECKS.due("door(0, 0, 0) at the rest 0", train.door(0, 0, 0), 3);
        CHECKS.due("rest", train.doorOf(0, 0, 1), 5);
        CHECKS.due("closing doors", train.wagon(0, 3), 1);
        train.set(2, 0);
        CHECKS.due("rest with a new lag", train.doorOf(0, 0, 1), 5);
        CHECKS.due("door(0, 0, 0) at the rest 5", train.door(0, 0, 0), 3);
        CHECKS.due("rest", train.doorOf(0, 0, 1), 0);
    }

    /** "To open a door to a level ... means that it has this level, and is closing no longer." */
    private static void openingEndsTheClosing() {
        for (int level = 1; level <= 3; level++) {
            BallastTrain train = new BallastTrain();
            train.set(2, 0);
            train.door(1, 0, 2);
            train.door(1, 0, 0);
            CHECKS.due("door(1, 0, " + level + ")", train.door(1, 0, level), 2);
            CHECKS.due("level", train.doorOf(1, 0, 0), level);
            CHECKS.due("rest", train.doorOf(1, 0, 1), NONE);
            train.pass(9);
            CHECKS.due("level later", train.doorOf(1, 0, 0), level);
        }
    }

    /** P9: "speed: 0 to 3"; "Returns the wish before"; the same wish is a change, too. */
    private static void speedsAre0To3() {
        for (int before = 0; before <= 3; before++) {
            for (int speed = 0; speed <= 3; speed++) {
                BallastTrain train = new BallastTrain();
                train.wish(before);
                CHECKS.due("wish(" + speed + ") behind " + before, train.wish(speed), before);
                CHECKS.due("wish", train.count(3), speed);
                CHECKS.due("states", train.count(12), 2);
            }
        }
        refused("wish(-1)", x -> x.wish(-1), BAD);
        refused("wish(4)", x -> x.wish(4), BAD);
        for (int speed : FAR) {
            refused("wish(" + speed + ")", x -> x.wish(speed), BAD);
        }
    }

    /** P9: "Sets the wish", and not the speed, from 0 and from 3. */
    private static void aWishMovesNothingAtOnce() {
        BallastTrain train = new BallastTrain();
        train.wish(3);
        CHECKS.due("speed behind wish(3)", train.count(2), 0);
        CHECKS.due("place behind wish(3)", train.count(1), -1);
        train.pass(3);
        train.wish(0);
        CHECKS.due("speed behind wish(0)", train.count(2), 3);
        CHECKS.due("place behind wish(0)", train.count(1), 5);
    }
}
