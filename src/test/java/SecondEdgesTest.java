/** The edges that the promise 12 names, with what "Seconds" says of its steps; a test for each sentence. */
public final class SecondEdgesTest {
    private static final int BAD = BallastTrain.BAD, FULL = BallastTrain.FULL, NONE = BallastTrain.NONE;
    private static final int CELLS = 40, LAST_TIME = 9999, LAST_PLACE = 99;
    private static final int[] FAR = {Integer.MIN_VALUE, -65536, 65536, Integer.MAX_VALUE};
    private static final Checks CHECKS = new Checks();

    public static void main(String[] args) {
        secondsAre1To200();
        timeIsAtMost9999();
        badComesBeforeFull();
        manySecondsAreAsManyTimesOne();
        speedChangesBy1TowardsTheWish();
        placeIsNotAbove99();
        asManyUnitsAsTheLevelSaysButAtMostTheLoad();
        doorsTakeFromTheLoadByAscendingNumbers();
        eachWagonHasItsOwnLoad();
        unitsComeToTheCellBelow();
        unitsAreLostIfTheCellDoesNotExist();
        slopeItselfIsNotMore();
        theGreatestSlope();
        heapsSlideOnEveryCell();
        oneUnitSlidesHoweverSteepItIs();
        heightsAreAsTheyAreThen();
        nothingSlidesBeyondTheLastCell();
        limitItselfIsNotAbove();
        theGreatestLimit();
        everyShoulderHasTheLimit();
        theMiddleHasNoLimit();
        heapsSlideBeforeShouldersAreCut();
        aRestOf0Closes();
        anOrderWithTheLag0();
        jamItselfIsNoJam();
        theGreatestJam();
        aJamLeavesTheLevel1();
        aJamIsOfItsWagon();
        aClosedDoorNeverJams();
        CHECKS.end();
    }

    private static void refused(String name, Checks.Call call, int error) {
        CHECKS.changesNothing(name + " on a standing train", Trains::standing, call, error);
        CHECKS.changesNothing(name + " on a going train", Trains::going, call, error);
        CHECKS.changesNothing(name + " on a new train", BallastTrain::new, call, error);
    }

    private static void heights(String when, BallastTrain train, int strip, int... want) {
        for (int cell = 0; cell < want.length; cell++) {
            CHECKS.due("height(" + cell + ", " + strip + ") " + when, train.height(cell, strip), want[cell]);
        }
    }

    /** P12: "seconds: 1 to 200"; however many pass, it is one change; "7. The time increases by 1." */
    private static void secondsAre1To200() {
        for (int seconds : new int[] {1, 2, 199, 200}) {
            BallastTrain train = new BallastTrain();
            CHECKS.due("pass(" + seconds + ")", train.pass(seconds), -1);
            CHECKS.due("time", train.count(4), seconds);
            CHECKS.due("states", train.count(12), 1);
        }
        for (int seconds : new int[] {0, -1, -200, 201}) {
            refused("pass(" + seconds + ")", x -> x.pass(seconds), BAD);
        }
        for (int seconds : FAR) {
            refused("pass(" + seconds + ")", x -> x.pass(seconds), BAD);
        }
    }

    /** P12: "FULL if the time would be above 9999". */
    private static void timeIsAtMost9999() {
        for (int seconds : new int[] {1, 2, 199, 200}) {
            for (int over = -1; over <= 1; over++) {
                int from = Math.min(LAST_TIME, LAST_TIME - seconds + over);
                String name = "pass(" + seconds + ") at the time " + from;
                if (over > 0) {
                    CHECKS.changesNothing(name, () -> Trains.atTime(from), x -> x.pass(seconds), FULL);
                } else {
                    BallastTrain train = Trains.atTime(from);
                    CHECKS.due(name, train.pass(seconds), -1);
                    CHECKS.due("time", train.count(4), LAST_TIME + over);
                }
            }
        }
        CHECKS.changesNothing("pass(200) at the last time", Trains::lateAndBusy, x -> x.pass(200), FULL);
        CHECKS.changesNothing("pass(2) at the last time but one", Trains::lateAndBusy, x -> x.pass(2), FULL);
        CHECKS.due("pass(1) at the last time but one", Trains.lateAndBusy().pass(1), 0);
        BallastTrain train = Trains.lateAndBusy();
        train.pass(1);
        CHECKS.due("load at the last time, at speed", train.load(1, 1), BallastTrain.STATE);
        CHECKS.due("setTrain(2) at the last time", train.setTrain(2), 199);
        CHECKS.due("time", train.count(4), LAST_TIME);
        CHECKS.due("undo(), back to the time before", train.undo(), 5);
        train.undo();
        CHECKS.due("time", train.count(4), LAST_TIME - 1);
    }

    /** "If several errors apply, the one that comes first in this list is returned." */
    private static void badComesBeforeFull() {
        for (int seconds : new int[] {0, -1, 201, Integer.MAX_VALUE, Integer.MIN_VALUE}) {
            CHECKS.changesNothing("pass(" + seconds + ") at the last time", () -> Trains.atTime(LAST_TIME),
                    x -> x.pass(seconds), BAD);
        }
    }

    /** P12: "Lets seconds pass": many at once, or one by one. */
    private static void manySecondsAreAsManyTimesOne() {
        for (int seconds : new int[] {1, 2, 7, 30, 200}) {
            BallastTrain atOnce = Trains.going();
            BallastTrain oneByOne = Trains.going();
            int place = atOnce.pass(seconds);
            for (int i = 1; i < seconds; i++) {
                oneByOne.pass(1);
            }
            CHECKS.due("pass(1) no. " + seconds, oneByOne.pass(1), place);
            CHECKS.due("digest() behind " + seconds, oneByOne.digest(), atOnce.digest());
        }
    }

    /** "1. The speed changes by 1 towards the wish, if it is another one." */
    private static void speedChangesBy1TowardsTheWish() {
        for (int speed = 0; speed <= 3; speed++) {
            for (int wish = 0; wish <= 3; wish++) {
                BallastTrain train = new BallastTrain();
                train.wish(speed);
                train.pass(5);
                int place = train.count(1);
                train.wish(wish);
                int want = speed < wish ? speed + 1 : speed > wish ? speed - 1 : speed;
                CHECKS.due("place from " + speed + " to " + wish, train.pass(1), place + want);
                CHECKS.due("speed from " + speed + " to " + wish, train.count(2), want);
                CHECKS.due("wish", train.count(3), wish);
                train.pass(3);
                CHECKS.due("speed at last", train.count(2), wish);
            }
        }
    }

    /** Goes to a place, and is there at a speed. */
    private static BallastTrain at(int place, int speed) {
        int slow = speed == 3 ? place - 5 : speed == 2 ? place - 2 : place;
        BallastTrain train = new BallastTrain();
        train.wish(1);
        train.pass(slow + 1);
        train.wish(speed);
        if (speed > 1) {
            train.pass(speed - 1);
        }
        return train;
    }

    /** "The place increases by the speed as it is then, but not above 99." */
    private static void placeIsNotAbove99() {
        for (int speed = 1; speed <= 3; speed++) {
            for (int place = 94; place <= LAST_PLACE; place++) {
                BallastTrain train = at(place, speed);
                CHECKS.due("place", train.count(1), place);
                CHECKS.due("speed", train.count(2), speed);
                CHECKS.due("pass(1) at " + place + " with the speed " + speed, train.pass(1),
                        Math.min(place + speed, LAST_PLACE));
                CHECKS.due("speed", train.count(2), speed);
                CHECKS.due("pass(200)", train.pass(200), LAST_PLACE);
                CHECKS.due("speed", train.count(2), speed);
                CHECKS.due("the last wagon", train.wagon(2, 1), LAST_PLACE - 8);
            }
        }
    }

    /** "as many units as the level says, but at most the load, leave the wagon". */
    private static void asManyUnitsAsTheLevelSaysButAtMostTheLoad() {
        for (int load = 0; load <= 5; load++) {
            for (int level = 0; level <= 3; level++) {
                for (int door = 0; door < 3; door++) {
                    BallastTrain train = Trains.standingAt(6, load);
                    train.door(0, door, level);
                    train.pass(1);
                    int want = Math.min(load, level);
                    String name = " with the load " + load + " and the level " + level;
                    CHECKS.due("height" + name, train.height(6, door), want);
                    CHECKS.due("load" + name, train.wagon(0, 0), load - want);
                    CHECKS.due("units that left" + name, train.wagon(0, 4), want);
                    CHECKS.due("on the track" + name, train.count(9), want);
                    CHECKS.due("level" + name, train.doorOf(0, door, 0), level);
                }
            }
        }
    }

    /** "each of its doors, by ascending numbers": what one leaves, the next ones have. */
    private static void doorsTakeFromTheLoadByAscendingNumbers() {
        for (int levels = 0; levels < 64; levels++) {
            for (int load = 0; load <= 10; load++) {
                BallastTrain train = Trains.standingAt(6, load);
                int left = load;
                int[] want = new int[3];
                for (int door = 0; door < 3; door++) {
                    int level = levels >> 2 * door & 3;
                    train.door(0, door, level);
                    want[door] = Math.min(level, left);
                    left -= want[door];
                }
                train.pass(1);
                for (int door = 0; door < 3; door++) {
                    CHECKS.due("levels " + levels + ", load " + load, train.height(6, door), want[door]);
                }
                CHECKS.due("load", train.wagon(0, 0), left);
            }
        }
    }

    /** "For each wagon": none takes from the load of the one beside it, and the last one unloads, too. */
    private static void eachWagonHasItsOwnLoad() {
        for (int wagon = 0; wagon < 6; wagon++) {
            BallastTrain train = new BallastTrain();
            train.setTrain(6);
            Trains.goTo(train, 30);
            for (int i = 0; i < 6; i++) {
                train.door(i, 1, 2);
            }
            train.load(wagon, 3);
            train.pass(1);
            for (int i = 0; i < 6; i++) {
                CHECKS.due("load of " + i, train.wagon(i, 0), i == wagon ? 1 : 0);
                CHECKS.due("units that left " + i, train.wagon(i, 4), i == wagon ? 2 : 0);
                CHECKS.due("height below " + i, train.height(30 - 4 * i, 1), i == wagon ? 2 : 0);
            }
        }
    }

    private static BallastTrain unloading(int wagon, int cell) {
        BallastTrain train = new BallastTrain();
        train.setTrain(6);
        Trains.goTo(train, cell + 4 * wagon);
        train.load(wagon, 2);
        train.door(wagon, 2, 1);
        train.pass(1);
        return train;
    }

    /** "they come to the strip of the cell below": the first cell, the last one, and those beside them. */
    private static void unitsComeToTheCellBelow() {
        for (int wagon = 0; wagon < 6; wagon++) {
            for (int cell : new int[] {0, 1, 20, 38, 39}) {
                BallastTrain train = unloading(wagon, cell);
                CHECKS.due("the cell below " + wagon, train.wagon(wagon, 1), cell);
                CHECKS.due("height(" + cell + ", 2)", train.height(cell, 2), 1);
                CHECKS.due("on the track", train.count(9), 1);
                CHECKS.due("lost", train.count(10), 0);
            }
        }
    }

    /** "or, if this cell does not exist, are lost": before the first cell and beyond the last one. */
    private static void unitsAreLostIfTheCellDoesNotExist() {
        for (int wagon = 0; wagon < 6; wagon++) {
            for (int cell : new int[] {-1, 40, 41, 79}) {
                BallastTrain train = unloading(wagon, cell);
                CHECKS.due("the cell below " + wagon, train.wagon(wagon, 1), cell);
                CHECKS.due("on the track", train.count(9), 0);
                CHECKS.due("lost", train.count(10), 1);
                CHECKS.due("load", train.wagon(wagon, 0), 1);
                CHECKS.due("units that left", train.wagon(wagon, 4), 1);
            }
        }
        BallastTrain train = new BallastTrain();
        train.setTrain(6);
        train.load(5, 2);
        train.door(5, 0, 3);
        train.pass(1);
        CHECKS.due("the cell below the last wagon at first", train.wagon(5, 1), -21);
        CHECKS.due("lost there", train.count(10), 2);
    }

    /** "if it is higher than the same strip of the next cell by more than the slope"; and the same for lower. */
    private static void slopeItselfIsNotMore() {
        for (int slope : new int[] {1, 2, 4, 18, 19}) {
            for (int strip = 0; strip < 3; strip++) {
                String when = "with the slope " + slope;
                BallastTrain down = Trains.withHeights(strip, slope);
                down.set(0, slope);
                down.pass(9);
                heights("by the slope higher, " + when, down, strip, slope, 0, 0);
                BallastTrain downMore = Trains.withHeights(strip, slope + 1);
                downMore.set(0, slope);
                downMore.pass(1);
                heights("higher by more, " + when, downMore, strip, slope, 1, 0);
                BallastTrain up = Trains.withHeights(strip, 0, slope);
                up.set(0, slope);
                up.pass(9);
                heights("by the slope lower, " + when, up, strip, 0, slope, 0, 0);
                BallastTrain upMore = Trains.withHeights(strip, 0, slope + 1);
                upMore.set(0, slope);
                upMore.pass(1);
                heights("lower by more, " + when, upMore, strip, 1, slope, 0, 0);
            }
        }
        BallastTrain between = Trains.withHeights(1, 9, 5, 10, 14);
        between.pass(5);
        heights("with differences up to 5 and the slope 20", between, 1, 9, 5, 10, 14, 0);
        between.set(0, 14);
        between.pass(5);
        heights("with differences up to 14 and the slope 14", between, 1, 9, 5, 10, 14, 0);
    }

    /** "0 the slope, 1 to 20": the greatest one. */
    private static void theGreatestSlope() {
        BallastTrain train = Trains.standingAt(0, 30);
        train.set(0, 20);
        train.set(1, 60);
        train.door(0, 1, 1);
        train.pass(20);
        heights("by 20 higher", train, 1, 20, 0);
        train.pass(1);
        heights("by 21 higher", train, 1, 20, 1, 0);
        train.pass(1);
        heights("21 and 1", train, 1, 21, 1, 0);
        train.pass(1);
        heights("22 and 1", train, 1, 21, 2, 0);
    }

    /** "For each cell from 0 to 38, and for each of its strips": every heap slides to both sides, on its strip. */
    private static void heapsSlideOnEveryCell() {
        for (int cell = 0; cell < CELLS; cell++) {
            for (int strip = 0; strip < 3; strip++) {
                BallastTrain train = Trains.standingAt(cell, 3);
                train.set(0, 1);
                train.door(0, strip, 3);
                train.pass(1);
                int before = cell > 0 ? 1 : 0;
                int behind = cell + 1 < CELLS ? 1 : 0;
                CHECKS.due("height of the heap", train.height(cell, strip), 3 - before - behind);
                if (cell > 0) {
                    CHECKS.due("height before it", train.height(cell - 1, strip), 1);
                }
                if (cell + 1 < CELLS) {
                    CHECKS.due("height behind it", train.height(cell + 1, strip), 1);
                }
                CHECKS.due("all on its strip", train.profile(strip, 0), 3);
                CHECKS.due("on the track", train.count(9), 3);
                CHECKS.due("lost", train.count(10), 0);
            }
        }
    }

    /** "a unit slides": one, however great the difference is. */
    private static void oneUnitSlidesHoweverSteepItIs() {
        BallastTrain train = Trains.withHeights(0, 20);
        train.set(0, 1);
        train.pass(1);
        heights("after a second", train, 0, 19, 1, 0);
        train.pass(1);
        heights("after two seconds", train, 0, 18, 1, 1, 0);
        BallastTrain back = Trains.withHeights(2, 0, 20, 20);
        back.set(0, 1);
        back.pass(1);
        heights("back, after a second", back, 2, 1, 19, 19, 1, 0);
    }

    /** "(The heights are as they are then, behind what has slid before.)" */
    private static void heightsAreAsTheyAreThen() {
        BallastTrain train = Trains.withHeights(1, 5, 3, 2, 1);
        train.set(0, 1);
        train.pass(1);
        heights("a unit slides all the way", train, 1, 4, 3, 2, 1, 1, 0);
        train.pass(9);
        heights("and then nothing does", train, 1, 4, 3, 2, 1, 1, 0);
        BallastTrain back = Trains.withHeights(1, 0, 1, 2, 4);
        back.set(0, 1);
        back.pass(1);
        heights("back, a unit slides to one cell", back, 1, 0, 1, 3, 2, 1, 0);
        back.pass(1);
        heights("and to the next one a second later", back, 1, 0, 2, 2, 2, 1, 0);
        back.pass(1);
        heights("and to the first one", back, 1, 1, 1, 2, 2, 1, 0);
        BallastTrain hollow = Trains.withHeights(1, 2, 0, 2);
        hollow.set(0, 1);
        hollow.pass(1);
        heights("the first one fills the hollow", hollow, 1, 1, 1, 1, 1, 0);
    }

    /** "For each cell from 0 to 38": the last one has no next one. */
    private static void nothingSlidesBeyondTheLastCell() {
        BallastTrain train = Trains.standingAt(39, 9);
        train.set(0, 1);
        train.door(0, 0, 3);
        train.pass(1);
        CHECKS.due("height(39, 0)", train.height(39, 0), 2);
        CHECKS.due("height(38, 0)", train.height(38, 0), 1);
        CHECKS.due("height(0, 1)", train.height(0, 1), 0);
        train.pass(200);
        CHECKS.due("on the strip", train.profile(0, 0), 9);
        CHECKS.due("lost", train.count(10), 0);
        BallastTrain last = Trains.standingAt(38, 5);
        last.set(0, 1);
        last.door(0, 2, 3);
        last.pass(2);
        CHECKS.due("height(37, 2)", last.height(37, 2), 2);
        CHECKS.due("height(38, 2)", last.height(38, 2), 2);
        CHECKS.due("height(39, 2)", last.height(39, 2), 1);
    }

    /** "5. What lies above the limit on shoulders is lost." */
    private static void limitItselfIsNotAbove() {
        for (int limit : new int[] {1, 2, 12, 18}) {
            for (int strip = 0; strip < 3; strip++) {
                for (int height : new int[] {limit - 1, limit, limit + 1, limit + 2, 20}) {
                    BallastTrain train = Trains.withHeights(strip, 0, 0, height);
                    train.set(1, limit);
                    String name = "on the strip " + strip + " with the limit " + limit + " and the height " + height;
                    CHECKS.due("height before a second " + name, train.height(2, strip), height);
                    CHECKS.due("lost before a second " + name, train.count(10), 0);
                    train.pass(1);
                    int want = strip == 1 ? height : Math.min(height, limit);
                    CHECKS.due("height " + name, train.height(2, strip), want);
                    CHECKS.due("lost " + name, train.count(10), height - want);
                    train.pass(1);
                    CHECKS.due("lost later " + name, train.count(10), height - want);
                }
            }
        }
    }

    /** "1 the limit of shoulders, 1 to 60": the greatest one. Of 3 that fall on the last cell, 1 slides. */
    private static void theGreatestLimit() {
        for (int strip = 0; strip < 3; strip++) {
            BallastTrain train = Trains.standingAt(39, 200);
            train.set(0, 20);
            train.set(1, 60);
            train.door(0, strip, 3);
            train.pass(7);
            CHECKS.due("height after 7 seconds", train.height(39, strip), 20);
            train.pass(20);
            CHECKS.due("height after 27 seconds", train.height(39, strip), 60);
            CHECKS.due("lost at the limit", train.count(10), 0);
            train.pass(1);
            CHECKS.due("height after 28 seconds", train.height(39, strip), strip == 1 ? 62 : 60);
            CHECKS.due("lost above the limit", train.count(10), strip == 1 ? 0 : 2);
        }
    }

    /** "The left and the right strip are shoulders", on each cell. */
    private static void everyShoulderHasTheLimit() {
        BallastTrain train = new BallastTrain();
        train.setTrain(1);
        train.set(1, 1);
        train.load(0, 200);
        train.door(0, 0, 2);
        train.door(0, 2, 2);
        train.wish(1);
        for (int cell = 0; cell < CELLS; cell++) {
            train.pass(1);
            CHECKS.due("height(" + cell + ", 0)", train.height(cell, 0), 1);
            CHECKS.due("height(" + cell + ", 1)", train.height(cell, 1), 0);
            CHECKS.due("height(" + cell + ", 2)", train.height(cell, 2), 1);
            CHECKS.due("lost", train.count(10), 2 * (cell + 1));
        }
    }

    /** "on shoulders": the middle strip is none, whatever the limit is. */
    private static void theMiddleHasNoLimit() {
        BallastTrain train = Trains.standingAt(39, 200);
        train.set(0, 20);
        train.set(1, 1);
        train.door(0, 1, 3);
        train.pass(60);
        CHECKS.due("lost", train.count(10), 0);
        CHECKS.due("on the middle strip", train.profile(1, 0), 180);
        CHECKS.due("the heap is above 60", train.height(39, 1) > 60 ? 1 : 0, 1);
    }

    /** "in this order": 3, then 4, then 5. */
    private static void heapsSlideBeforeShouldersAreCut() {
        BallastTrain train = Trains.standingAt(0, 9);
        train.set(0, 1);
        train.set(1, 2);
        train.door(0, 0, 3);
        train.pass(1);
        heights("after a second", train, 0, 2, 1, 0);
        CHECKS.due("lost after a second", train.count(10), 0);
        train.pass(1);
        heights("after two seconds", train, 0, 2, 1, 1, 0);
        CHECKS.due("lost after two seconds", train.count(10), 2);
    }

    /** "if its rest is 0, its level becomes 0"; "If its rest is greater, the rest decreases by 1." */
    private static void aRestOf0Closes() {
        for (int lag = 0; lag <= 9; lag++) {
            BallastTrain train = Trains.standingAt(0, 50);
            train.set(2, lag);
            train.door(0, 1, 1);
            train.door(0, 1, 0);
            for (int rest = lag; rest >= 0; rest--) {
                CHECKS.due("rest with the lag " + lag, train.doorOf(0, 1, 1), rest);
                CHECKS.due("level at the rest " + rest, train.doorOf(0, 1, 0), 1);
                CHECKS.due("closing doors at the rest " + rest, train.wagon(0, 3), 1);
                train.pass(1);
            }
            CHECKS.due("rest of the closed door", train.doorOf(0, 1, 1), NONE);
            CHECKS.due("level of the closed door", train.doorOf(0, 1, 0), 0);
            CHECKS.due("closing doors", train.wagon(0, 3), 0);
            CHECKS.due("units that left with the lag " + lag, train.wagon(0, 4), lag + 1);
            train.pass(5);
            CHECKS.due("units that left later", train.wagon(0, 4), lag + 1);
        }
    }

    /** "(So with the lag 0, a door that an order closes in 2 still lets ballast fall in 3, and closes in 6 ...)" */
    private static void anOrderWithTheLag0() {
        for (int lag = 0; lag <= 2; lag++) {
            BallastTrain train = Trains.standingAt(3, 50);
            train.set(2, lag);
            train.door(0, 1, 2);
            Trains.ordered(train, "@3c0m;");
            for (int second = 0; second <= lag; second++) {
                CHECKS.due("level before the second " + second, train.doorOf(0, 1, 0), 2);
                train.pass(1);
                CHECKS.due("units that left", train.wagon(0, 4), 2 * (second + 1));
                CHECKS.due("rest", train.doorOf(0, 1, 1), second == lag ? NONE : lag - second - 1);
            }
            CHECKS.due("level with the lag " + lag, train.doorOf(0, 1, 0), 0);
        }
        BallastTrain opened = Trains.standingAt(3, 50);
        opened.set(2, 0);
        Trains.ordered(opened, "@3o0m3;@3c0m;");
        opened.pass(1);
        CHECKS.due("opened, closed, and still let fall", opened.height(3, 1), 3);
        CHECKS.due("level", opened.doorOf(0, 1, 0), 0);
    }

    /** A door that closes in the next second, when the load is as great as told. */
    private static BallastTrain closing(int level, int loadThen, int jam) {
        BallastTrain train = Trains.standingAt(3, loadThen + level);
        train.set(2, 0);
        train.set(3, jam);
        train.door(0, 2, level);
        train.door(0, 2, 0);
        train.pass(1);
        CHECKS.due("load then", train.wagon(0, 0), loadThen);
        return train;
    }

    /** "but if the load of its wagon is greater than the jam, its level becomes 1 instead, and this is a jam". */
    private static void jamItselfIsNoJam() {
        for (int jam : new int[] {0, 1, 50, 100, 195}) {
            for (int level = 1; level <= 3; level++) {
                for (int load = Math.max(0, jam - 1); load <= jam + 2; load++) {
                    BallastTrain train = closing(level, load, jam);
                    String name = " with the load " + load + " and the jam " + jam;
                    int jams = load > jam ? 1 : 0;
                    CHECKS.due("jams" + name, train.count(6), jams);
                    CHECKS.due("level" + name, train.doorOf(0, 2, 0), jams);
                    CHECKS.due("rest" + name, train.doorOf(0, 2, 1), NONE);
                    CHECKS.due("closing doors" + name, train.wagon(0, 3), 0);
                }
            }
        }
    }

    /** "3 the jam, 0 to 200": a load that is greater than 199 or 200 is never left. */
    private static void theGreatestJam() {
        CHECKS.due("jams with 199 units and the jam 198", closing(1, 199, 198).count(6), 1);
        CHECKS.due("jams with 199 units and the jam 199", closing(1, 199, 199).count(6), 0);
        CHECKS.due("jams with 199 units and the jam 200", closing(1, 199, 200).count(6), 0);
        CHECKS.due("level with the jam 200", closing(1, 199, 200).doorOf(0, 2, 0), 0);
    }

    /** "its level becomes 1 instead ...; in both cases it is closing no longer", and can be closed again. */
    private static void aJamLeavesTheLevel1() {
        BallastTrain train = closing(3, 100, 98);
        CHECKS.due("level of a jam", train.doorOf(0, 2, 0), 1);
        train.pass(1);
        CHECKS.due("it lets a unit fall", train.wagon(0, 0), 99);
        CHECKS.due("jams", train.count(6), 1);
        CHECKS.due("close it again", train.door(0, 2, 0), 1);
        train.pass(1);
        CHECKS.due("load", train.wagon(0, 0), 98);
        CHECKS.due("level", train.doorOf(0, 2, 0), 0);
        CHECKS.due("jams", train.count(6), 1);
        BallastTrain again = closing(1, 100, 50);
        for (int jams = 2; jams <= 5; jams++) {
            again.door(0, 2, 0);
            again.pass(1);
            CHECKS.due("a jam each time", again.count(6), jams);
        }
    }

    /** "the load of its wagon", and each closing door of it: the first wagon, the last one, all doors. */
    private static void aJamIsOfItsWagon() {
        for (int full = 0; full < 6; full++) {
            BallastTrain train = new BallastTrain();
            train.setTrain(6);
            train.set(2, 0);
            for (int wagon = 0; wagon < 6; wagon++) {
                train.load(wagon, wagon == full ? 104 : 103);
                for (int door = 0; door < 3; door++) {
                    train.door(wagon, door, 1);
                    train.door(wagon, door, 0);
                }
            }
            train.pass(1);
            CHECKS.due("jams", train.count(6), 3);
            for (int wagon = 0; wagon < 6; wagon++) {
                CHECKS.due("levels of the wagon " + wagon, train.wagon(wagon, 2), wagon == full ? 3 : 0);
                CHECKS.due("closing doors", train.wagon(wagon, 3), 0);
            }
        }
    }

    /** "For each closing door": one that is open or closed does not jam. */
    private static void aClosedDoorNeverJams() {
        BallastTrain train = Trains.standingAt(3, 200);
        train.set(2, 0);
        train.set(3, 0);
        train.door(0, 0, 0);
        train.door(0, 1, 2);
        train.pass(5);
        CHECKS.due("jams", train.count(6), 0);
        CHECKS.due("level of the closed door", train.doorOf(0, 0, 0), 0);
        CHECKS.due("level of the open door", train.doorOf(0, 1, 0), 2);
    }
}
