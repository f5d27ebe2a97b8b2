/** The edges that the promises 15, 16 and 20 name; a test for each sentence. */
public final class ToldEdgesTest {
    private static final int BAD = BallastTrain.BAD, NONE = BallastTrain.NONE;
    private static final int MOST_WAGONS = 6;
    private static final int[] FAR = {Integer.MIN_VALUE, -65536, 65536, Integer.MAX_VALUE};
    private static final Checks CHECKS = new Checks();

    public static void main(String[] args) {
        wagonNamesAWagon();
        wagonTells0To4();
        itsLoad();
        theCellBelowAlsoIfItDoesNotExist();
        theSumOfLevels();
        theNumberOfClosingDoors();
        unitsSinceTheLastSetTrain();
        doorOfNamesAWagon();
        doorOfNamesADoor();
        doorOfTells0And1();
        noneIfItIsNotClosing();
        orderedIsBadBelow0();
        orderedTells0To4();
        noneIfThereAreNotSoMany();
        badComesBeforeNone();
        noneForWhatItHasNot();
        theLeastAndTheGreatestParts();
        CHECKS.end();
    }

    private static void refused(String name, Checks.Call call, int error) {
        CHECKS.changesNothing(name + " on a standing train", Trains::standing, call, error);
        CHECKS.changesNothing(name + " on a going train", Trains::going, call, error);
        CHECKS.changesNothing(name + " on a new train", BallastTrain::new, call, error);
    }

    private static BallastTrain withWagons(int wagons) {
        BallastTrain train = new BallastTrain();
        train.setTrain(wagons);
        return train;
    }

    /** P15: "wagon: the wagon", from 0 to the last one. */
    private static void wagonNamesAWagon() {
        for (int wagons = 1; wagons <= MOST_WAGONS; wagons++) {
            BallastTrain train = withWagons(wagons);
            for (int what = 0; what <= 4; what++) {
                CHECKS.due("wagon(0, " + what + ")", train.wagon(0, what), what == 1 ? -1 : 0);
                CHECKS.due("the last wagon", train.wagon(wagons - 1, what), what == 1 ? 3 - 4 * wagons : 0);
                CHECKS.due("wagon(" + wagons + ", " + what + ")", train.wagon(wagons, what), BAD);
                CHECKS.due("wagon(-1, " + what + ")", train.wagon(-1, what), BAD);
            }
        }
        refused("wagon(-1, 0)", x -> x.wagon(-1, 0), BAD);
        refused("wagon(3, 0)", x -> x.wagon(3, 0), BAD);
        for (int wagon : FAR) {
            refused("wagon(" + wagon + ", 0)", x -> x.wagon(wagon, 0), BAD);
            refused("wagon(" + wagon + ", 1)", x -> x.wagon(wagon, 1), BAD);
        }
    }

    /** P15: "what: 0 ..., 4". */
    private static void wagonTells0To4() {
        refused("wagon(0, -1)", x -> x.wagon(0, -1), BAD);
        refused("wagon(2, 5)", x -> x.wagon(2, 5), BAD);
        refused("wagon(3, 5)", x -> x.wagon(3, 5), BAD);
        for (int what : FAR) {
            refused("wagon(1, " + what + ")", x -> x.wagon(1, what), BAD);
        }
        int[] told = {179, 1, 3, 1, 21};
        for (int what = 0; what <= 4; what++) {
            int number = what;
            CHECKS.changesNothing("wagon(1, " + what + ")", Trains::standing, x -> x.wagon(1, number), told[what]);
        }
    }

    /** P15: "0 for its load", 0 to 200. */
    private static void itsLoad() {
        BallastTrain train = new BallastTrain();
        int[] loads = {1, 199, 200};
        for (int i = 0; i < loads.length; i++) {
            CHECKS.due("wagon(" + i + ", 0) when it is empty", train.wagon(i, 0), 0);
            train.load(i, loads[i]);
            CHECKS.due("wagon(" + i + ", 0)", train.wagon(i, 0), loads[i]);
        }
    }

    /** P15: "1 for the cell below its doors, also if it does not exist": before the track and beyond it. */
    private static void theCellBelowAlsoIfItDoesNotExist() {
        for (int place = -1; place <= 99; place++) {
            BallastTrain train = withWagons(MOST_WAGONS);
            Trains.goTo(train, place);
            CHECKS.due("place", train.count(1), place);
            for (int wagon = 0; wagon < MOST_WAGONS; wagon++) {
                CHECKS.due("wagon(" + wagon + ", 1) at the place " + place, train.wagon(wagon, 1), place - 4 * wagon);
            }
        }
    }

    /** P15: "2 for the sum of the levels of its doors", 0 to 9; closing doors have their level still. */
    private static void theSumOfLevels() {
        for (int wagon = 0; wagon < 3; wagon++) {
            for (int levels = 0; levels < 64; levels++) {
                BallastTrain train = new BallastTrain();
                int sum = 0;
                for (int door = 0; door < 3; door++) {
                    int level = levels >> 2 * door & 3;
                    train.door(wagon, door, level);
                    sum += level;
                }
                CHECKS.due("sum of the levels " + levels, train.wagon(wagon, 2), sum);
                CHECKS.due("those of the next wagon", train.wagon((wagon + 1) % 3, 2), 0);
                for (int door = 0; door < 3; door++) {
                    train.door(wagon, door, 0);
                }
                CHECKS.due("sum as they are closing", train.wagon(wagon, 2), sum);
            }
        }
    }

    /** P15: "3 for the number of its closing doors", 0 to 3, also with a rest of 0. */
    private static void theNumberOfClosingDoors() {
        for (int lag : new int[] {0, 9}) {
            for (int closing = 0; closing < 8; closing++) {
                BallastTrain train = new BallastTrain();
                train.set(2, lag);
                for (int door = 0; door < 3; door++) {
                    train.door(1, door, 3);
                    if ((closing >> door & 1) == 1) {
                        train.door(1, door, 0);
                    }
                }
                CHECKS.due("closing doors", train.wagon(1, 3), Integer.bitCount(closing));
                CHECKS.due("those of the wagon before", train.wagon(0, 3), 0);
                CHECKS.due("those of the wagon behind", train.wagon(2, 3), 0);
            }
        }
    }

    /** P15: "4 for the units that have left it since setTrain() was called the last time, or since the beginning". */
    private static void unitsSinceTheLastSetTrain() {
        BallastTrain train = new BallastTrain();
        CHECKS.due("units that left a new train", train.wagon(0, 4), 0);
        train.load(0, 200);
        train.door(0, 0, 3);
        train.pass(66);
        CHECKS.due("units that left since the beginning", train.wagon(0, 4), 198);
        train.pass(2);
        CHECKS.due("all units", train.wagon(0, 4), 200);
        train.load(0, 5);
        train.pass(2);
        CHECKS.due("more than fit into it at once", train.wagon(0, 4), 205);
        CHECKS.due("units that left the next wagon", train.wagon(1, 4), 0);
        CHECKS.due("setTrain(7)", train.setTrain(7), BAD);
        CHECKS.due("units behind a refused setTrain", train.wagon(0, 4), 205);
        train.setTrain(3);
        CHECKS.due("units since setTrain", train.wagon(0, 4), 0);
        train.undo();
        CHECKS.due("units behind undo()", train.wagon(0, 4), 205);
    }

    /** P16: "wagon: the wagon". */
    private static void doorOfNamesAWagon() {
        for (int wagons = 1; wagons <= MOST_WAGONS; wagons++) {
            BallastTrain train = withWagons(wagons);
            for (int what = 0; what <= 1; what++) {
                CHECKS.due("doorOf(0, 0, " + what + ")", train.doorOf(0, 0, what), what == 0 ? 0 : NONE);
                CHECKS.due("the last wagon", train.doorOf(wagons - 1, 2, what), what == 0 ? 0 : NONE);
                CHECKS.due("doorOf(" + wagons + ", 0, " + what + ")", train.doorOf(wagons, 0, what), BAD);
                CHECKS.due("doorOf(-1, 2, " + what + ")", train.doorOf(-1, 2, what), BAD);
            }
        }
        refused("doorOf(-1, 0, 0)", x -> x.doorOf(-1, 0, 0), BAD);
        refused("doorOf(3, 2, 1)", x -> x.doorOf(3, 2, 1), BAD);
        for (int wagon : FAR) {
            refused("doorOf(" + wagon + ", 0, 0)", x -> x.doorOf(wagon, 0, 0), BAD);
        }
    }

    /** P16: "door: 0 to 2". */
    private static void doorOfNamesADoor() {
        BallastTrain train = new BallastTrain();
        for (int i = 0; i < 9; i++) {
            train.door(i / 3, i % 3, 1 + i % 2);
        }
        for (int i = 0; i < 9; i++) {
            CHECKS.due("doorOf(" + i / 3 + ", " + i % 3 + ", 0)", train.doorOf(i / 3, i % 3, 0), 1 + i % 2);
        }
        for (int wagon = 0; wagon < 3; wagon++) {
            int there = wagon;
            for (int what = 0; what <= 1; what++) {
                int number = what;
                refused("doorOf(" + wagon + ", -1, " + what + ")", x -> x.doorOf(there, -1, number), BAD);
                refused("doorOf(" + wagon + ", 3, " + what + ")", x -> x.doorOf(there, 3, number), BAD);
            }
        }
        for (int door : FAR) {
            refused("doorOf(0, " + door + ", 0)", x -> x.doorOf(0, door, 0), BAD);
        }
    }

    /** P16: "what: 0 for its level, 1 for the rest of seconds". */
    private static void doorOfTells0And1() {
        refused("doorOf(0, 0, -1)", x -> x.doorOf(0, 0, -1), BAD);
        refused("doorOf(0, 0, 2)", x -> x.doorOf(0, 0, 2), BAD);
        for (int what : FAR) {
            refused("doorOf(0, 0, " + what + ")", x -> x.doorOf(0, 0, what), BAD);
        }
        CHECKS.changesNothing("doorOf(1, 0, 0)", Trains::standing, x -> x.doorOf(1, 0, 0), 3);
        CHECKS.changesNothing("doorOf(1, 0, 1)", Trains::standing, x -> x.doorOf(1, 0, 1), 3);
    }

    /** P16: "(NONE if it is not closing)": closed, open, closing with a rest of 0, and closed again. */
    private static void noneIfItIsNotClosing() {
        BallastTrain train = new BallastTrain();
        CHECKS.due("rest of a closed door", train.doorOf(0, 0, 1), NONE);
        train.door(0, 0, 1);
        CHECKS.due("rest of an open door", train.doorOf(0, 0, 1), NONE);
        train.door(0, 0, 0);
        CHECKS.due("rest of a closing door", train.doorOf(0, 0, 1), 1);
        train.pass(1);
        CHECKS.due("rest of a closing door, a second later", train.doorOf(0, 0, 1), 0);
        train.pass(1);
        CHECKS.due("rest of a closed door", train.doorOf(0, 0, 1), NONE);
        train.set(2, 9);
        train.door(0, 0, 3);
        train.door(0, 0, 0);
        CHECKS.due("the greatest rest", train.doorOf(0, 0, 1), 9);
        CHECKS.due("doorOf(0, 3, 1) is bad, and not none", train.doorOf(0, 3, 1), BAD);
        CHECKS.due("doorOf(0, 0, 2) is bad, and not none", train.doorOf(0, 0, 2), BAD);
    }

    private static BallastTrain withOrders(int orders) {
        return Trains.ordered(new BallastTrain(), "@9c0l;".repeat(orders));
    }

    /** P20: "BAD if i is negative". */
    private static void orderedIsBadBelow0() {
        for (int orders : new int[] {0, 1, 10}) {
            int there = orders;
            for (int what = 0; what <= 4; what++) {
                int number = what;
                CHECKS.changesNothing("ordered(-1, " + what + ") of " + orders, () -> withOrders(there),
                        x -> x.ordered(-1, number), BAD);
            }
            CHECKS.changesNothing("ordered(MIN_VALUE, 0) of " + orders, () -> withOrders(there),
                    x -> x.ordered(Integer.MIN_VALUE, 0), BAD);
        }
    }

    /** P20: "or what is out of range". */
    private static void orderedTells0To4() {
        for (int orders : new int[] {1, 10}) {
            int there = orders;
            CHECKS.changesNothing("ordered(0, -1)", () -> withOrders(there), x -> x.ordered(0, -1), BAD);
            CHECKS.changesNothing("ordered(0, 5)", () -> withOrders(there), x -> x.ordered(0, 5), BAD);
            for (int what : FAR) {
                CHECKS.changesNothing("ordered(0, " + what + ")", () -> withOrders(there),
                        x -> x.ordered(0, what), BAD);
            }
            int[] parts = {9, 1, 0, 0, NONE};
            for (int what = 0; what <= 4; what++) {
                int number = what;
                CHECKS.changesNothing("ordered(0, " + what + ")", () -> withOrders(there),
                        x -> x.ordered(0, number), parts[what]);
            }
        }
    }

    /** P20: "NONE if there are not so many". */
    private static void noneIfThereAreNotSoMany() {
        for (int orders = 0; orders <= 10; orders++) {
            BallastTrain train = withOrders(orders);
            for (int what = 0; what <= 4; what++) {
                if (orders > 0 && what < 4) {
                    CHECKS.due("the last order", train.ordered(orders - 1, what), new int[] {9, 1, 0, 0}[what]);
                }
                CHECKS.due("the one behind it", train.ordered(orders, what), NONE);
                CHECKS.due("ordered(10, " + what + ")", train.ordered(10, what), NONE);
                CHECKS.due("ordered(MAX_VALUE, " + what + ")", train.ordered(Integer.MAX_VALUE, what), NONE);
            }
        }
        CHECKS.changesNothing("ordered(3, 0) of 3", Trains::standing, x -> x.ordered(3, 0), NONE);
        BallastTrain train = withOrders(10);
        train.cancel(9);
        CHECKS.due("an order that was cancelled", train.ordered(9, 0), NONE);
        train.undo();
        CHECKS.due("an order that came back", train.ordered(9, 0), 9);
    }

    /** "NONE ... is returned only if no error applies." */
    private static void badComesBeforeNone() {
        for (int orders : new int[] {0, 1, 10}) {
            int there = orders;
            CHECKS.changesNothing("ordered(" + orders + ", 5)", () -> withOrders(there), x -> x.ordered(there, 5), BAD);
            CHECKS.changesNothing("ordered(10, -1)", () -> withOrders(there), x -> x.ordered(10, -1), BAD);
            CHECKS.changesNothing("ordered(-1, 5)", () -> withOrders(there), x -> x.ordered(-1, 5), BAD);
        }
    }

    /** P20: "(NONE for what it has not)". */
    private static void noneForWhatItHasNot() {
        BallastTrain train = Trains.ordered(new BallastTrain(), "@0o0l1;@0c0l;@0v0;");
        int[][] parts = {{0, 0, 0, 0, 1}, {0, 1, 0, 0, NONE}, {0, 2, NONE, NONE, 0}};
        for (int i = 0; i < parts.length; i++) {
            for (int what = 0; what <= 4; what++) {
                CHECKS.due("ordered(" + i + ", " + what + ")", train.ordered(i, what), parts[i][what]);
            }
        }
    }

    /** "An order has a cell, 0 to 39 ..."; wagons 0 to 5, doors 0 to 2, levels 1 to 3, speeds 0 to 3. */
    private static void theLeastAndTheGreatestParts() {
        BallastTrain train = Trains.ordered(new BallastTrain(), "@39o5r3;@39c5r;@39v3;@38o4m2;@01v1;");
        int[][] parts = {
            {39, 0, 5, 2, 3}, {39, 1, 5, 2, NONE}, {39, 2, NONE, NONE, 3}, {38, 0, 4, 1, 2}, {1, 2, NONE, NONE, 1}};
        for (int i = 0; i < parts.length; i++) {
            for (int what = 0; what <= 4; what++) {
                CHECKS.due("ordered(" + i + ", " + what + ")", train.ordered(i, what), parts[i][what]);
            }
        }
    }
}
