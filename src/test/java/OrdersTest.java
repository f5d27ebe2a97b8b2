/** Promises 10, 11 and 20: order, cancel, ordered; and how orders are carried out. */
public final class OrdersTest {
    private static final Checks CHECKS = new Checks();

    public static void main(String[] args) {
        partsOfOrders();
        emptyTextIsAChange();
        faultyText();
        fullList();
        cancelling();
        wrongQuestions();
        dueAtThePlace();
        carriedOutInOrder();
        wagonThatDoesNotExist();
        closingInTheSameSecond();
        ordersThatAreLeftKeepTheirOrder();
        CHECKS.end();
    }

    private static void parts(BallastTrain train, int i, int... want) {
        for (int what = 0; what < want.length; what++) {
            CHECKS.due("ordered(" + i + ", " + what + ")", train.ordered(i, what), want[what]);
        }
    }

    private static void partsOfOrders() {
        int none = BallastTrain.NONE;
        BallastTrain train = Trains.typed("@12o3m2; @07c5r; @ 39 v 3 ; @4o0l1;");
        CHECKS.due("order()", train.order(), 4);
        CHECKS.due("orders", train.count(5), 4);
        CHECKS.due("the text stays", train.count(13), 35);
        CHECKS.due("states", train.count(12), 1);
        parts(train, 0, 12, 0, 3, 1, 2);
        parts(train, 1, 7, 1, 5, 2, none);
        parts(train, 2, 39, 2, none, none, 3);
        parts(train, 3, 4, 0, 0, 0, 1);
        parts(train, 4, none, none, none, none, none);
        CHECKS.due("order() again", train.order(), 4);
        parts(train, 4, 12, 0, 3, 1, 2);
        CHECKS.due("orders", train.count(5), 8);
    }

    private static void emptyTextIsAChange() {
        BallastTrain train = new BallastTrain();
        CHECKS.due("order() of the empty text", train.order(), 0);
        CHECKS.due("states", train.count(12), 1);
        CHECKS.due("order() of blanks", Trains.typed(train, "  ").order(), 0);
        CHECKS.due("states", train.count(12), 2);
    }

    private static void faultyText() {
        BallastTrain train = Trains.typed("@1v1;@1v1");
        long before = train.digest();
        CHECKS.due("order() of a faulty text", train.order(), BallastTrain.STATE);
        CHECKS.unchanged("order() of a faulty text", train, before);
    }

    private static void fullList() {
        BallastTrain train = Trains.typed("@9v1;@9v1;@9v1;@9v1;@9v1;@9v1;@9v1;@9v1;@9v1;@9v1;@9v1;");
        CHECKS.due("11 orders at once", train.order(), BallastTrain.FULL);
        CHECKS.due("none of them came", train.count(5), 0);
        CHECKS.due("9 orders", Trains.typed(train, "@9v1;@9v1;@9v1;@9v1;@9v1;@9v1;@9v1;@9v1;@9v1;").order(), 9);
        CHECKS.due("one order", Trains.typed(train, "@9v2;").order(), 1);
        long before = train.digest();
        CHECKS.due("an eleventh order", train.order(), BallastTrain.FULL);
        CHECKS.unchanged("an eleventh order", train, before);
        CHECKS.due("a faulty text on a full list", Trains.typed(train, "@9v2;x").order(), BallastTrain.STATE);
        CHECKS.due("no order on a full list", Trains.typed(train, " ").order(), 0);
    }

    private static void cancelling() {
        BallastTrain train = Trains.typed("@1v1;@2v2;@3v3;");
        train.order();
        long before = train.digest();
        CHECKS.due("cancel(-1)", train.cancel(-1), BallastTrain.BAD);
        CHECKS.due("cancel(3)", train.cancel(3), BallastTrain.BAD);
        CHECKS.unchanged("cancel(3)", train, before);
        CHECKS.due("cancel(1)", train.cancel(1), 2);
        parts(train, 0, 1);
        parts(train, 1, 3);
        parts(train, 2, BallastTrain.NONE);
        CHECKS.due("states", train.count(12), 2);
        CHECKS.due("cancel(1)", train.cancel(1), 1);
        CHECKS.due("cancel(0)", train.cancel(0), 0);
        CHECKS.due("cancel(0) of no order", train.cancel(0), BallastTrain.BAD);
    }

    private static void wrongQuestions() {
        BallastTrain train = Trains.typed("@1v1;");
        train.order();
        CHECKS.due("ordered(-1, 0)", train.ordered(-1, 0), BallastTrain.BAD);
        CHECKS.due("ordered(0, -1)", train.ordered(0, -1), BallastTrain.BAD);
        CHECKS.due("ordered(0, 5)", train.ordered(0, 5), BallastTrain.BAD);
        CHECKS.due("ordered(1, 5)", train.ordered(1, 5), BallastTrain.BAD);
        CHECKS.due("ordered(MAX_VALUE, 4)", train.ordered(Integer.MAX_VALUE, 4), BallastTrain.NONE);
    }

    private static void dueAtThePlace() {
        BallastTrain train = Trains.typed("@3o1m2;@5v2;");
        train.order();
        train.wish(1);
        train.pass(5);
        CHECKS.due("orders at the place 4", train.count(5), 2);
        train.pass(1);
        CHECKS.due("orders at the place 5", train.count(5), 1);
        CHECKS.due("wish", train.count(3), 2);
        CHECKS.due("speed, still", train.count(2), 1);
        CHECKS.due("door at the place 5", train.doorOf(1, 1, 0), 0);
        CHECKS.due("place then", train.pass(1), 7);
        CHECKS.due("the wagon 1 is above the cell 3", train.wagon(1, 1), 3);
        CHECKS.due("door at the place 7", train.doorOf(1, 1, 0), 2);
        CHECKS.due("orders", train.count(5), 0);
        train.wish(3);
        train.pass(1);
        Trains.typed(train, "@1o0l3;@4v0;").order();
        CHECKS.due("no order is carried out at once", train.count(5), 2);
        train.pass(1);
        CHECKS.due("orders beyond their cells", train.count(5), 0);
        CHECKS.due("door beyond its cell", train.doorOf(0, 0, 0), 3);
        CHECKS.due("wish beyond its cell", train.count(3), 0);
    }

    private static void carriedOutInOrder() {
        BallastTrain train = Trains.typed("@2o0l1;@1o0l3;@2v2;@1v3;");
        train.order();
        train.wish(2);
        train.pass(2);
        CHECKS.due("the later order counts", train.doorOf(0, 0, 0), 3);
        CHECKS.due("the later wish counts", train.count(3), 3);
        CHECKS.due("orders", train.count(5), 0);
        Trains.typed(train, "@1c0l;@1o0l2;@1o0r1;@1c0r;").order();
        train.pass(1);
        CHECKS.due("closed, then opened", train.doorOf(0, 0, 0), 2);
        CHECKS.due("opened, so not closing", train.doorOf(0, 0, 1), BallastTrain.NONE);
        CHECKS.due("opened, then closed", train.doorOf(0, 2, 0), 1);
        CHECKS.due("the rest after a second", train.doorOf(0, 2, 1), 0);
    }

    private static void wagonThatDoesNotExist() {
        BallastTrain train = Trains.typed("@0o3l1;@0o5r2;@0v1;");
        train.order();
        train.wish(3);
        train.pass(40);
        CHECKS.due("orders for wagons 3 and 5 stay", train.count(5), 2);
        train.setTrain(4);
        CHECKS.due("setTrain leaves the orders", train.count(5), 2);
        train.wish(1);
        train.pass(12);
        CHECKS.due("wagon 3 is above the cell -1", train.count(5), 2);
        train.pass(1);
        CHECKS.due("wagon 3 is above the cell 0", train.count(5), 1);
        CHECKS.due("its door", train.doorOf(3, 0, 0), 1);
        CHECKS.due("the order that stays", train.ordered(0, 2), 5);
    }

    private static void closingInTheSameSecond() {
        BallastTrain train = Trains.standingAt(2, 50);
        train.set(2, 0);
        train.door(0, 1, 3);
        Trains.typed(train, "@2c0m;").order();
        train.pass(1);
        CHECKS.due("ballast still falls", train.height(2, 1), 3);
        CHECKS.due("the door is closed", train.doorOf(0, 1, 0), 0);
        CHECKS.due("and no longer closing", train.doorOf(0, 1, 1), BallastTrain.NONE);
    }

    private static void ordersThatAreLeftKeepTheirOrder() {
        BallastTrain train = Trains.typed("@9v1;@0v2;@8v1;@0c0l;@7v1;");
        train.order();
        train.wish(1);
        train.pass(1);
        CHECKS.due("orders", train.count(5), 3);
        parts(train, 0, 9);
        parts(train, 1, 8);
        parts(train, 2, 7);
        parts(train, 3, BallastTrain.NONE);
    }
}
