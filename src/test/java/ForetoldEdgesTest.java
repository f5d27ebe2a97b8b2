/** The edges that the promises 21 and 22 name; a test for each sentence. */
public final class ForetoldEdgesTest {
    private static final int BAD = BallastTrain.BAD, NONE = BallastTrain.NONE;
    private static final int LAST_TIME = 9999, LAST_PLACE = 99;
    private static final int[] FAR = {Integer.MIN_VALUE, -65536, 65536, Integer.MAX_VALUE};
    private static final Checks CHECKS = new Checks();

    public static void main(String[] args) {
        secondsAre1To200();
        foretellTells0To6();
        asIfTheSecondsPassed();
        alsoIfTheTimeWouldBeAbove9999();
        thePlaceIsNotAbove99();
        whatIsEmptyIsForetoldAs0();
        jamsSinceTheBeginning();
        ordersThatAreLeft();
        zeroIfAllAreEmpty();
        theSecondInWhichTheLastUnitLeaves();
        allWagonsMustBeEmpty();
        noneIfItNeverIs();
        anOrderInTimeEmptiesIt();
        theLongestWayToEmptiness();
        emptyAlsoIfTheTimeWouldBeAbove9999();
        CHECKS.end();
    }

    private static void refused(String name, Checks.Call call, int error) {
        CHECKS.changesNothing(name + " on a standing train", Trains::standing, call, error);
        CHECKS.changesNothing(name + " on a going train", Trains::going, call, error);
        CHECKS.changesNothing(name + " on a new train", BallastTrain::new, call, error);
    }

    /** P21: "seconds: 1 to 200". */
    private static void secondsAre1To200() {
        for (int what = 0; what <= 6; what++) {
            int number = what;
            for (int seconds : new int[] {0, -1, 201}) {
                refused("foretell(" + seconds + ", " + what + ")", x -> x.foretell(seconds, number), BAD);
            }
        }
        for (int seconds : FAR) {
            refused("foretell(" + seconds + ", 0)", x -> x.foretell(seconds, 0), BAD);
        }
        BallastTrain train = new BallastTrain();
        train.load(0, 200);
        train.door(0, 0, 1);
        for (int seconds : new int[] {1, 2, 199, 200}) {
            CHECKS.due("foretell(" + seconds + ", 1)", train.foretell(seconds, 1), 200 - seconds);
            CHECKS.due("foretell(" + seconds + ", 3)", train.foretell(seconds, 3), seconds);
        }
    }

    /** P21: "what: 0 ..., 6". */
    private static void foretellTells0To6() {
        for (int seconds : new int[] {1, 200}) {
            refused("foretell(" + seconds + ", -1)", x -> x.foretell(seconds, -1), BAD);
            refused("foretell(" + seconds + ", 7)", x -> x.foretell(seconds, 7), BAD);
            for (int what : FAR) {
                refused("foretell(" + seconds + ", " + what + ")", x -> x.foretell(seconds, what), BAD);
            }
        }
        int[] told = {-1, 0, 0, 0, 0, 960, 0};
        for (int what = 0; what <= 6; what++) {
            int number = what;
            CHECKS.changesNothing("foretell(1, " + what + ")", BallastTrain::new, x -> x.foretell(1, number),
                    told[what]);
            CHECKS.changesNothing("foretell(200, " + what + ")", BallastTrain::new, x -> x.foretell(200, number),
                    told[what]);
        }
    }

    private static int numberNow(BallastTrain train, int what) {
        return what == 5 ? train.lacking(-1) : train.count(new int[] {1, 8, 9, 10, 6, -1, 5}[what]);
    }

    /** P21: "Tells what would be if seconds passed", and nothing passes. */
    private static void asIfTheSecondsPassed() {
        for (int seconds : new int[] {1, 2, 3, 20, 199, 200}) {
            for (Checks.Maker maker : new Checks.Maker[] {Trains::standing, Trains::going}) {
                BallastTrain later = maker.make();
                later.pass(seconds);
                for (int what = 0; what <= 6; what++) {
                    int number = what;
                    CHECKS.changesNothing("foretell(" + seconds + ", " + what + ")", maker,
                            x -> x.foretell(seconds, number), numberNow(later, what));
                }
            }
        }
    }

    /** P21: "(also if the time would be above 9999)". */
    private static void alsoIfTheTimeWouldBeAbove9999() {
        for (int seconds : new int[] {1, 2, 3, 200}) {
            int early = 9;
            BallastTrain later = lateTrain(early);
            later.pass(seconds);
            for (int time : new int[] {LAST_TIME - 1, LAST_TIME}) {
                for (int what = 0; what <= 6; what++) {
                    int number = what;
                    CHECKS.changesNothing("foretell(" + seconds + ", " + what + ") at the time " + time,
                            () -> lateTrain(time), x -> x.foretell(seconds, number), numberNow(later, what));
                }
            }
        }
    }

    private static BallastTrain lateTrain(int time) {
        BallastTrain train = Trains.atTime(time);
        train.load(0, 200);
        train.set(3, 0);
        Trains.ordered(train, "@0o0l3;@2c0l;@39o5l1;@39v0;");
        train.wish(1);
        return train;
    }

    /** P21: "0 for the place", which is not above 99. */
    private static void thePlaceIsNotAbove99() {
        for (int speed = 1; speed <= 3; speed++) {
            BallastTrain train = new BallastTrain();
            train.wish(speed);
            int lost = speed == 1 ? 1 : speed == 2 ? 2 : 4;
            for (int seconds : new int[] {32, 33, 34, 35, 50, 51, 52, 99, 100, 101, 200}) {
                int want = Math.min(LAST_PLACE, speed * seconds - lost);
                CHECKS.due("foretell(" + seconds + ", 0) with the wish " + speed, train.foretell(seconds, 0), want);
            }
            CHECKS.due("place", train.count(1), -1);
        }
    }

    /** P21: "1 for the units in all wagons", the last of which has left, and the second before. */
    private static void whatIsEmptyIsForetoldAs0() {
        BallastTrain train = Trains.standingAt(4, 10);
        train.set(0, 20);
        train.set(1, 8);
        train.set(4, 10);
        train.door(0, 2, 3);
        int[] in = {7, 4, 1, 0, 0};
        int[] on = {3, 6, 8, 8, 8};
        for (int i = 0; i < in.length; i++) {
            CHECKS.due("in wagons after " + (i + 1), train.foretell(i + 1, 1), in[i]);
            CHECKS.due("on the track after " + (i + 1), train.foretell(i + 1, 2), on[i]);
            CHECKS.due("lost after " + (i + 1), train.foretell(i + 1, 3), 10 - in[i] - on[i]);
            CHECKS.due("lacking after " + (i + 1), train.foretell(i + 1, 5), 1200 - on[i]);
        }
    }

    /** P21: "lost since the beginning", "jams since the beginning": what has been counts, too. */
    private static void jamsSinceTheBeginning() {
        BallastTrain train = new BallastTrain();
        train.set(2, 0);
        train.load(0, 104);
        train.door(0, 0, 2);
        train.door(0, 0, 0);
        CHECKS.due("a jam is foretold", train.foretell(1, 4), 1);
        train.pass(1);
        train.door(0, 0, 0);
        CHECKS.due("a load of 101 jams", train.foretell(1, 4), 2);
        train.pass(1);
        train.door(0, 0, 0);
        CHECKS.due("a load of 100 does not", train.foretell(1, 4), 2);
        CHECKS.due("lost", train.foretell(1, 3), 4);
        CHECKS.due("jams", train.count(6), 2);
        train.setTrain(2);
        CHECKS.due("jams behind setTrain", train.foretell(1, 4), 2);
        CHECKS.due("lost behind setTrain", train.foretell(200, 3), 3);
    }

    /** P21: "6 for the number of orders that are left": at the last second before they are due, and in it. */
    private static void ordersThatAreLeft() {
        BallastTrain train = Trains.ordered(new BallastTrain(), "@0v1;@39v1;@39c2r;@0c3l;");
        train.wish(1);
        int[][] left = {{1, 3}, {39, 3}, {40, 2}, {47, 2}, {48, 1}, {200, 1}};
        for (int[] at : left) {
            CHECKS.due("foretell(" + at[0] + ", 6)", train.foretell(at[0], 6), at[1]);
        }
        CHECKS.due("orders", train.count(5), 4);
    }

    /** P22: "Returns the seconds, 0 if they are". */
    private static void zeroIfAllAreEmpty() {
        CHECKS.changesNothing("emptyAfter() of a new train", BallastTrain::new, x -> x.emptyAfter(), 0);
        BallastTrain train = new BallastTrain();
        train.setTrain(6);
        CHECKS.due("emptyAfter() of six empty wagons", train.emptyAfter(), 0);
        train.load(5, 1);
        CHECKS.due("emptyAfter() with one unit and no open door", train.emptyAfter(), NONE);
        train.door(5, 2, 1);
        CHECKS.due("emptyAfter() with one unit and an open door", train.emptyAfter(), 1);
        train.pass(1);
        CHECKS.due("emptyAfter() a second later", train.emptyAfter(), 0);
        train.undo();
        CHECKS.due("emptyAfter() behind undo()", train.emptyAfter(), 1);
    }

    /** P22: "Finds after how many seconds all wagons would be empty": not one more, not one less. */
    private static void theSecondInWhichTheLastUnitLeaves() {
        for (int level = 1; level <= 3; level++) {
            for (int load : new int[] {1, 2, 3, 4, 5, 6, 7, 198, 199, 200}) {
                BallastTrain train = new BallastTrain();
                train.load(0, load);
                train.door(0, 1, level);
                int want = (load + level - 1) / level;
                CHECKS.due("emptyAfter() of " + load + " by " + level, train.emptyAfter(), want);
                CHECKS.due("in wagons then", train.foretell(want, 1), 0);
                if (want > 1) {
                    CHECKS.due("in wagons before", train.foretell(want - 1, 1) > 0 ? 1 : 0, 1);
                }
            }
        }
        CHECKS.changesNothing("emptyAfter()", () -> {
            BallastTrain train = Trains.standing();
            train.setTrain(1);
            train.load(0, 9);
            train.door(0, 0, 2);
            return train;
        }, x -> x.emptyAfter(), 5);
    }

    /** P22: "all wagons": the slowest of them tells; one that never is empty makes it NONE. */
    private static void allWagonsMustBeEmpty() {
        for (int slowest = 0; slowest < 6; slowest++) {
            BallastTrain train = new BallastTrain();
            train.setTrain(6);
            for (int wagon = 0; wagon < 6; wagon++) {
                train.load(wagon, 60);
                train.door(wagon, wagon % 3, wagon == slowest ? 1 : 2);
            }
            CHECKS.due("emptyAfter() with the slow wagon " + slowest, train.emptyAfter(), 60);
            train.door(slowest, slowest % 3, 0);
            CHECKS.due("emptyAfter() when its door closes", train.emptyAfter(), NONE);
        }
    }

    /** P22: "NONE if it would take more": closed doors, closing ones, a train that never comes to its order. */
    private static void noneIfItNeverIs() {
        CHECKS.changesNothing("emptyAfter() of a busy train without jams", () -> withoutJams(Trains.standing()),
                x -> x.emptyAfter(), NONE);
        CHECKS.changesNothing("emptyAfter() of a train on its way without jams", () -> withoutJams(Trains.going()),
                x -> x.emptyAfter(), NONE);
        BallastTrain train = new BallastTrain();
        train.set(3, 200);
        train.load(0, 3);
        train.door(0, 0, 1);
        train.door(0, 0, 0);
        CHECKS.due("emptyAfter() with 3 units and 2 seconds", train.emptyAfter(), NONE);
        train.pass(1);
        CHECKS.due("emptyAfter() with 2 units and 1 second", train.emptyAfter(), NONE);
        BallastTrain just = new BallastTrain();
        just.load(0, 2);
        just.door(0, 0, 1);
        just.door(0, 0, 0);
        CHECKS.due("emptyAfter() with 2 units and 2 seconds", just.emptyAfter(), 2);
        BallastTrain standing = new BallastTrain();
        standing.load(0, 1);
        Trains.ordered(standing, "@0o0l1;");
        CHECKS.due("emptyAfter() of a train that stands", standing.emptyAfter(), NONE);
        standing.wish(1);
        CHECKS.due("emptyAfter() of a train that goes", standing.emptyAfter(), 1);
        Trains.ordered(standing, "@0o3l1;");
        CHECKS.due("an order of no wagon does not matter", standing.emptyAfter(), 1);
    }

    private static BallastTrain withoutJams(BallastTrain train) {
        train.set(3, 200);
        return train;
    }

    /** P22, as seconds pass with their orders, lags and jams. */
    private static void anOrderInTimeEmptiesIt() {
        CHECKS.changesNothing("179 units: 12 in 4 seconds, then a jam", Trains::standing, x -> x.emptyAfter(), 171);
        CHECKS.changesNothing("196 units: 18 in 9 seconds, then a jam", Trains::going, x -> x.emptyAfter(), 187);
        BallastTrain train = new BallastTrain();
        train.load(0, 10);
        Trains.ordered(train, "@4o0m1;@7c0m;@20o0m3;");
        train.wish(1);
        CHECKS.due("opened at 4, 5 units until 8, the other 5 at 20 and 21", train.emptyAfter(), 22);
        train.set(2, 0);
        CHECKS.due("with the lag 0, 4 units until 7, the other 6 at 20 and 21", train.emptyAfter(), 22);
        train.set(2, 9);
        CHECKS.due("with the lag 9, all 10 until 13", train.emptyAfter(), 14);
        train.set(2, 0);
        train.set(3, 5);
        CHECKS.due("with a jam of 6 units, 1 each", train.emptyAfter(), 14);
        train.set(3, 6);
        CHECKS.due("with no jam", train.emptyAfter(), 22);
    }

    /**
     * P22: "at most 400": the slowest run there is opens the last wagon's door by an order at the place 59, that
     * is in the second 60, and needs 200 seconds from that one on. So no run can need 400.
     */
    private static void theLongestWayToEmptiness() {
        BallastTrain train = new BallastTrain();
        train.setTrain(6);
        for (int wagon = 0; wagon < 6; wagon++) {
            train.load(wagon, 200);
        }
        Trains.ordered(train, "@39o5l1;@0o0l1;@0o1l1;@0o2l1;@0o3l1;@0o4l1;");
        train.wish(1);
        CHECKS.due("emptyAfter()", train.emptyAfter(), 259);
        train.cancel(0);
        CHECKS.due("emptyAfter() without the order", train.emptyAfter(), NONE);
        train.undo();
        train.pass(200);
        CHECKS.due("emptyAfter() after 200 seconds", train.emptyAfter(), 59);
        train.pass(58);
        CHECKS.due("emptyAfter() a second before", train.emptyAfter(), 1);
        train.pass(1);
        CHECKS.due("emptyAfter() then", train.emptyAfter(), 0);
        BallastTrain never = new BallastTrain();
        never.load(0, 200);
        Trains.ordered(never, "@0o0l1;@0c0l;");
        never.set(2, 9);
        never.set(3, 189);
        never.wish(1);
        CHECKS.due("a jam of 190 units, 1 each", never.emptyAfter(), 200);
        never.set(3, 190);
        CHECKS.due("no jam of 190 units", never.emptyAfter(), NONE);
    }

    /** P22: "also if the time would be above 9999". */
    private static void emptyAlsoIfTheTimeWouldBeAbove9999() {
        for (int time : new int[] {LAST_TIME - 200, LAST_TIME - 1, LAST_TIME}) {
            CHECKS.changesNothing("emptyAfter() at the time " + time, () -> {
                BallastTrain train = Trains.atTime(time);
                train.load(2, 200);
                train.door(2, 2, 1);
                return train;
            }, x -> x.emptyAfter(), 200);
        }
    }
}
