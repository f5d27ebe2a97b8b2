/** The edges that the promises 10 and 11 name, with what "Orders" says; a test for each sentence. */
public final class OrderEdgesTest {
    private static final int BAD = BallastTrain.BAD, STATE = BallastTrain.STATE, FULL = BallastTrain.FULL;
    private static final int NONE = BallastTrain.NONE;
    private static final int MOST_WAGONS = 6;
    private static final int[] FAR = {Integer.MIN_VALUE, -65536, 65536, Integer.MAX_VALUE};
    private static final Checks CHECKS = new Checks();

    public static void main(String[] args) {
        atMostTenOrders();
        anEmptyTextIsAChange();
        aFaultIsState();
        stateComesBeforeFull();
        ordersOfAnyWagonAreTaken();
        theTextStays();
        cancelNamesAnOrder();
        cancelLeavesTheOthersInOrder();
        doorOrdersAreDueAtTheirCell();
        doorOrdersAreDueBeyondTheirCell();
        wishOrdersAreDueAtTheirCell();
        wishOrdersAreDueBeyondTheirCell();
        aStandingTrainIsAtItsCellStill();
        nothingIsCarriedOutBeforeASecond();
        ordersOfWagonsThatDoNotExistStay();
        dueOrdersLeaveTheListTogether();
        ordersAreCarriedOutInTheirOrder();
        aFullListIsCarriedOutAtOnce();
        aWishWorksFromTheNextSecondOn();
        anOrderToCloseAClosedDoorLeaves();
        CHECKS.end();
    }

    /** A list of so many orders, which are not due, and a text with some more. */
    private static BallastTrain withOrders(int orders, int more) {
        BallastTrain train = Trains.ordered(new BallastTrain(), "@9v1;".repeat(orders));
        return Trains.typed(train, "@8v2;".repeat(more));
    }

    /** P10: "FULL if there would be more than 10 orders"; P10: "Returns how many orders the text has". */
    private static void atMostTenOrders() {
        for (int orders = 0; orders <= 10; orders++) {
            for (int more = 0; more <= 12; more++) {
                String name = "order() of " + more + " behind " + orders;
                int before = orders;
                int added = more;
                if (orders + more > 10) {
                    CHECKS.changesNothing(name, () -> withOrders(before, added), x -> x.order(), FULL);
                } else {
                    BallastTrain train = withOrders(orders, more);
                    CHECKS.due(name, train.order(), more);
                    CHECKS.due("orders", train.count(5), orders + more);
                    CHECKS.due("states", train.count(12), 2);
                    for (int i = 0; i < 10; i++) {
                        int cell = i < orders ? 9 : i < orders + more ? 8 : NONE;
                        CHECKS.due("ordered(" + i + ", 0)", train.ordered(i, 0), cell);
                    }
                }
            }
        }
        CHECKS.changesNothing("order() of 8 behind 3 on its way",
                () -> Trains.typed(Trains.going(), "@9v1;".repeat(8)), x -> x.order(), FULL);
    }

    /** P10: "(0 if it is empty, which is a change, too)", also with blanks alone and on a full list. */
    private static void anEmptyTextIsAChange() {
        for (String text : new String[] {"", " ", " ".repeat(60)}) {
            BallastTrain train = Trains.typed(text);
            CHECKS.due("order() of '" + text + "'", train.order(), 0);
            CHECKS.due("states", train.count(12), 1);
            CHECKS.due("orders", train.count(5), 0);
            CHECKS.due("undo()", train.undo(), 0);
            BallastTrain full = Trains.typed(withOrders(10, 0), text);
            CHECKS.due("order() of '" + text + "' on a full list", full.order(), 0);
            CHECKS.due("states", full.count(12), 2);
            CHECKS.due("orders", full.count(5), 10);
        }
    }

    /** P10: "STATE if it has a fault": at its first byte, at its last one, and at its end. */
    private static void aFaultIsState() {
        String[] texts = {
            "x", "x@1v1;", "@1v1;@1v1;x", "@1v1;@1v1", "@", "@40v1;", "@1v1;@40", "@1v1;".repeat(11) + "@1v1 "};
        for (String text : texts) {
            CHECKS.changesNothing("order() of '" + text + "'", () -> Trains.typed(text), x -> x.order(), STATE);
            CHECKS.changesNothing("order() of '" + text + "' on a busy train",
                    () -> Trains.typed(Trains.standing(), text), x -> x.order(), STATE);
        }
    }

    /** "If several errors apply, the one that comes first in this list is returned." */
    private static void stateComesBeforeFull() {
        CHECKS.changesNothing("a faulty text behind 10", () -> Trains.typed(withOrders(10, 0), "@9v1;x"),
                x -> x.order(), STATE);
        CHECKS.changesNothing("11 orders and a fault", () -> Trains.typed("@9v1;".repeat(11) + "@"),
                x -> x.order(), STATE);
    }

    /** P10 has no error for "a wagon that does not exist": a wagon is from 0 to 5. */
    private static void ordersOfAnyWagonAreTaken() {
        for (int wagons = 1; wagons <= MOST_WAGONS; wagons++) {
            for (int wagon = 0; wagon <= 5; wagon++) {
                BallastTrain train = new BallastTrain();
                train.setTrain(wagons);
                Trains.typed(train, "@9o" + wagon + "r3;");
                CHECKS.due("order() for the wagon " + wagon + " of " + wagons, train.order(), 1);
                CHECKS.due("ordered(0, 2)", train.ordered(0, 2), wagon);
            }
        }
    }

    /** P10: "the text stays", so that it can be ordered as often as there is room. */
    private static void theTextStays() {
        BallastTrain train = Trains.typed("@9v1;@9v2; @9v3;");
        for (int i = 1; i <= 3; i++) {
            CHECKS.due("order() no. " + i, train.order(), 3);
            CHECKS.due("orders", train.count(5), 3 * i);
            CHECKS.due("length of the text", train.count(13), 16);
        }
        CHECKS.due("order() no. 4", train.order(), FULL);
        CHECKS.due("length of the text", train.count(13), 16);
        CHECKS.due("fault()", train.fault(), NONE);
    }

    /** P11: "i: its index in the list, from 0"; "Returns the number of orders that are left; BAD". */
    private static void cancelNamesAnOrder() {
        for (int orders = 0; orders <= 10; orders++) {
            int there = orders;
            Checks.Maker maker = () -> withOrders(there, 1);
            CHECKS.changesNothing("cancel(-1) of " + orders, maker, x -> x.cancel(-1), BAD);
            CHECKS.changesNothing("cancel(" + orders + ")", maker, x -> x.cancel(there), BAD);
            if (orders > 0) {
                CHECKS.due("cancel(0) of " + orders, maker.make().cancel(0), orders - 1);
                CHECKS.due("cancel of the last of " + orders, maker.make().cancel(orders - 1), orders - 1);
            }
        }
        for (int i : FAR) {
            CHECKS.changesNothing("cancel(" + i + ")", Trains::standing, x -> x.cancel(i), BAD);
            CHECKS.changesNothing("cancel(" + i + ")", Trains::going, x -> x.cancel(i), BAD);
        }
        CHECKS.changesNothing("cancel(3) of 3", Trains::going, x -> x.cancel(3), BAD);
    }

    /** P11: "Removes an order": the first, one between, the last. */
    private static void cancelLeavesTheOthersInOrder() {
        for (int i = 0; i < 10; i++) {
            BallastTrain train = Trains.typed("@0v1;@1v1;@2v1;@3v1;@4v1;@5v1;@6v1;@7v1;@8v1;@9v1;");
            train.order();
            CHECKS.due("cancel(" + i + ")", train.cancel(i), 9);
            CHECKS.due("orders", train.count(5), 9);
            for (int j = 0; j < 9; j++) {
                CHECKS.due("ordered(" + j + ", 0) then", train.ordered(j, 0), j < i ? j : j + 1);
            }
            CHECKS.due("ordered(9, 0) then", train.ordered(9, 0), NONE);
            CHECKS.due("states", train.count(12), 2);
        }
    }

    private static BallastTrain goingAtSpeed1(int wagons, String text) {
        BallastTrain train = new BallastTrain();
        train.setTrain(wagons);
        Trains.ordered(train, text);
        train.wish(1);
        return train;
    }

    /** "An order of a door is due as soon as the doors of its wagon are above its cell", not one place before. */
    private static void doorOrdersAreDueAtTheirCell() {
        for (int wagon = 0; wagon < MOST_WAGONS; wagon++) {
            for (int cell : new int[] {0, 1, 20, 38, 39}) {
                BallastTrain train = goingAtSpeed1(MOST_WAGONS, "@" + cell + "o" + wagon + "m2;");
                int place = cell + 4 * wagon;
                if (place > 0) {
                    CHECKS.due("pass to the place before", train.pass(place), place - 1);
                }
                CHECKS.due("orders at the place before", train.count(5), 1);
                CHECKS.due("level at the place before", train.doorOf(wagon, 1, 0), 0);
                CHECKS.due("pass(1)", train.pass(1), place);
                CHECKS.due("the cell of wagon " + wagon, train.wagon(wagon, 1), cell);
                CHECKS.due("orders at its place", train.count(5), 0);
                CHECKS.due("level at its place", train.doorOf(wagon, 1, 0), 2);
            }
        }
    }

    /** "or beyond", where the speed leaps over the cell: the places are 0, 2, 5, 8, .. */
    private static void doorOrdersAreDueBeyondTheirCell() {
        for (int cell = 3; cell <= 6; cell++) {
            for (int wagon = 0; wagon < 3; wagon++) {
                BallastTrain train = Trains.ordered(new BallastTrain(), "@" + cell + "o" + wagon + "l1;");
                train.wish(3);
                int seconds = 0;
                for (int place = -1; place < cell + 4 * wagon; place = train.pass(1)) {
                    CHECKS.due("orders at the place " + place, train.count(5), 1);
                    seconds++;
                }
                CHECKS.due("orders at its place or beyond", train.count(5), 0);
                CHECKS.due("level", train.doorOf(wagon, 0, 0), 1);
                CHECKS.due("time", train.count(4), seconds);
            }
        }
        BallastTrain train = new BallastTrain();
        train.wish(3);
        train.pass(40);
        CHECKS.due("the last place", train.count(1), 99);
        Trains.ordered(train, "@39c0l;@0o2r3;@39v0;");
        train.pass(1);
        CHECKS.due("orders far beyond", train.count(5), 0);
        CHECKS.due("level far beyond", train.doorOf(2, 2, 0), 3);
        CHECKS.due("wish far beyond", train.count(3), 0);
    }

    /** "one of the wish as soon as the place is its cell", not one place before. */
    private static void wishOrdersAreDueAtTheirCell() {
        for (int cell = 0; cell <= 39; cell++) {
            BallastTrain train = goingAtSpeed1(3, "@" + cell + "v2;");
            if (cell > 0) {
                train.pass(cell);
            }
            CHECKS.due("place before", train.count(1), cell - 1);
            CHECKS.due("orders at the place before", train.count(5), 1);
            CHECKS.due("wish at the place before", train.count(3), 1);
            train.pass(1);
            CHECKS.due("place", train.count(1), cell);
            CHECKS.due("orders at its place", train.count(5), 0);
            CHECKS.due("wish at its place", train.count(3), 2);
        }
    }

    /** "or beyond", where the speed leaps over the cell. */
    private static void wishOrdersAreDueBeyondTheirCell() {
        for (int cell = 3; cell <= 8; cell++) {
            BallastTrain train = Trains.ordered(new BallastTrain(), "@" + cell + "v0;");
            train.wish(3);
            CHECKS.due("pass(2)", train.pass(2), 2);
            CHECKS.due("orders at the place 2", train.count(5), 1);
            CHECKS.due("pass(1)", train.pass(1), 5);
            CHECKS.due("orders at the place 5", train.count(5), cell <= 5 ? 0 : 1);
            CHECKS.due("wish at the place 5", train.count(3), cell <= 5 ? 0 : 3);
            CHECKS.due("pass(1)", train.pass(1), cell <= 5 ? 7 : 8);
            CHECKS.due("orders then", train.count(5), 0);
        }
    }

    /** "are above its cell": also if the train stands there; at -1 it is above no cell. */
    private static void aStandingTrainIsAtItsCellStill() {
        BallastTrain train = Trains.ordered(new BallastTrain(), "@0v1;@0o0l1;@0c1m;");
        train.pass(200);
        CHECKS.due("orders of a train at -1", train.count(5), 3);
        CHECKS.due("wish of a train at -1", train.count(3), 0);
        BallastTrain standing = Trains.standingAt(7, 0);
        Trains.ordered(standing, "@8v1;@7o0l1;@8o0m1;@7v0;");
        standing.pass(1);
        CHECKS.due("orders of a train at 7", standing.count(5), 2);
        CHECKS.due("the first that stays", standing.ordered(0, 0), 8);
        CHECKS.due("the second that stays", standing.ordered(1, 0), 8);
        CHECKS.due("levels", standing.wagon(0, 2), 1);
    }

    /** "In each second": what is due stays in the list until one passes. */
    private static void nothingIsCarriedOutBeforeASecond() {
        BallastTrain train = Trains.standingAt(7, 0);
        Trains.ordered(train, "@7v3;@0o0l1;");
        CHECKS.due("orders at once", train.count(5), 2);
        CHECKS.due("wish at once", train.count(3), 0);
        CHECKS.due("levels at once", train.wagon(0, 2), 0);
        CHECKS.due("cancel(0) of an order that is due", train.cancel(0), 1);
        train.pass(1);
        CHECKS.due("orders", train.count(5), 0);
        CHECKS.due("wish, as its order was cancelled", train.count(3), 0);
        CHECKS.due("levels", train.wagon(0, 2), 1);
    }

    /** "(An order for a wagon that does not exist stays in the list.)", from the first such wagon on. */
    private static void ordersOfWagonsThatDoNotExistStay() {
        for (int wagons = 1; wagons < MOST_WAGONS; wagons++) {
            String opens = "@0o" + wagons + "l1;@0o" + (wagons - 1) + "l2;@0o5r3;";
            String closes = "@0c" + wagons + "m;@0c" + (wagons - 1) + "m;";
            BallastTrain train = new BallastTrain();
            train.setTrain(wagons);
            Trains.ordered(train, opens);
            Trains.ordered(train, closes);
            train.wish(3);
            train.pass(200);
            CHECKS.due("orders that stay with " + wagons + " wagons", train.count(5), 3);
            CHECKS.due("the first wagon that does not exist", train.ordered(0, 2), wagons);
            CHECKS.due("the last wagon that does not exist", train.ordered(1, 2), 5);
            CHECKS.due("the first wagon that does not exist", train.ordered(2, 2), wagons);
            CHECKS.due("the last wagon that exists", train.doorOf(wagons - 1, 0, 0), 2);
            train.setTrain(wagons + 1);
            train.wish(3);
            train.pass(200);
            CHECKS.due("orders that stay when it exists", train.count(5), wagons + 1 < MOST_WAGONS ? 1 : 0);
            CHECKS.due("it exists now", train.doorOf(wagons, 0, 0), 1);
        }
    }

    /** "all orders that are due are carried out ... and leave the list"; those that are not keep their order. */
    private static void dueOrdersLeaveTheListTogether() {
        for (int due = 0; due < 32; due++) {
            StringBuilder text = new StringBuilder();
            for (int i = 0; i < 5; i++) {
                text.append((due >> i & 1) == 1 ? "@0v" : "@1v").append(i % 3 + 1).append(';');
            }
            BallastTrain train = goingAtSpeed1(1, text.toString());
            train.pass(1);
            CHECKS.due("orders at the place 0", train.count(5), 5 - Integer.bitCount(due));
            int kept = 0;
            for (int i = 0; i < 5; i++) {
                if ((due >> i & 1) == 0) {
                    CHECKS.due("ordered(" + kept + ", 4)", train.ordered(kept, 4), i % 3 + 1);
                    kept++;
                }
            }
        }
    }

    /** "in their order", of the list and not of the cells. */
    private static void ordersAreCarriedOutInTheirOrder() {
        BallastTrain train = Trains.standingAt(9, 0);
        Trains.ordered(train, "@9v3;@0v2;@9o0l3;@0o0l1;@5o0m2;@5c0m;@5o0r1;");
        Trains.ordered(train, "@0c0r;@4o0r2;");
        train.pass(1);
        CHECKS.due("the last wish", train.count(3), 2);
        CHECKS.due("the last level", train.doorOf(0, 0, 0), 1);
        CHECKS.due("opened, then closed", train.doorOf(0, 1, 1), 0);
        CHECKS.due("closed, then opened", train.doorOf(0, 2, 1), NONE);
        CHECKS.due("its level", train.doorOf(0, 2, 0), 2);
        CHECKS.due("orders", train.count(5), 0);
    }

    /** "There are at most 10 orders": all ten can be due in one second, and there is room again. */
    private static void aFullListIsCarriedOutAtOnce() {
        BallastTrain train = goingAtSpeed1(1, "@0v3;".repeat(9));
        Trains.ordered(train, "@0v2;");
        CHECKS.due("orders", train.count(5), 10);
        CHECKS.due("ordered(9, 4)", train.ordered(9, 4), 2);
        train.pass(1);
        CHECKS.due("orders", train.count(5), 0);
        CHECKS.due("the wish of the tenth", train.count(3), 2);
        CHECKS.due("ten more", Trains.typed(train, "@39v1;".repeat(10)).order(), 10);
    }

    /** "1. The speed changes", then "2. Orders are carried out": the new wish counts a second later. */
    private static void aWishWorksFromTheNextSecondOn() {
        BallastTrain train = goingAtSpeed1(1, "@0v3;@8v0;");
        int[] places = {0, 2, 5, 8, 10, 11, 11};
        int[] speeds = {1, 2, 3, 3, 2, 1, 0};
        for (int i = 0; i < places.length; i++) {
            CHECKS.due("place in the second " + i, train.pass(1), places[i]);
            CHECKS.due("speed in the second " + i, train.count(2), speeds[i]);
        }
    }

    /** "To close a door means, if its level is not 0, ...; otherwise nothing happens": the order leaves even so. */
    private static void anOrderToCloseAClosedDoorLeaves() {
        BallastTrain train = Trains.standingAt(0, 0);
        Trains.ordered(train, "@0c0l;");
        train.set(2, 9);
        train.pass(1);
        CHECKS.due("orders", train.count(5), 0);
        CHECKS.due("rest", train.doorOf(0, 0, 1), NONE);
        Trains.ordered(train, "@0o0l3;@0c0l;");
        train.pass(1);
        CHECKS.due("rest with the lag 9 after a second", train.doorOf(0, 0, 1), 8);
    }
}
