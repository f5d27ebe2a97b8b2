/** The edges that the promises 1, 23 and 24 name; a test for each sentence. */
public final class NumberEdgesTest {
    private static final int BAD = BallastTrain.BAD, NONE = BallastTrain.NONE;
    private static final int[] FAR = {Integer.MIN_VALUE, -65536, 65536, Integer.MAX_VALUE};
    private static final Checks CHECKS = new Checks();

    public static void main(String[] args) {
        threeEmptyWagons();
        anEmptyTrack();
        anEmptyText();
        everyObjectIsNew();
        countTells0To18();
        countsAtFirst();
        wagonsPlaceSpeedAndWish();
        theTimeFrom0To9999();
        ordersFrom0To10();
        jamsSinceTheBeginning();
        unitsAreSomewhere();
        statesFrom0To6();
        theTextFrom0To60Bytes();
        theSettingsAreTheLast();
        digestOfTheLeast();
        digestOfTheMost();
        digestOfEachPart();
        digestChangesNothing();
        CHECKS.end();
    }

    private static void refused(String name, Checks.Call call, int error) {
        CHECKS.changesNothing(name + " on a standing train", Trains::standing, call, error);
        CHECKS.changesNothing(name + " on a going train", Trains::going, call, error);
        CHECKS.changesNothing(name + " on a new train", BallastTrain::new, call, error);
    }

    /** P1: "a train of three empty wagons"; its doors are closed, it stands at -1. */
    private static void threeEmptyWagons() {
        BallastTrain train = new BallastTrain();
        CHECKS.due("wagons", train.count(0), 3);
        for (int wagon = 0; wagon < 3; wagon++) {
            int[] told = {0, -1 - 4 * wagon, 0, 0, 0};
            for (int what = 0; what <= 4; what++) {
                CHECKS.due("wagon(" + wagon + ", " + what + ")", train.wagon(wagon, what), told[what]);
            }
            for (int door = 0; door < 3; door++) {
                CHECKS.due("level", train.doorOf(wagon, door, 0), 0);
                CHECKS.due("rest", train.doorOf(wagon, door, 1), NONE);
            }
        }
        CHECKS.due("wagon(3, 0)", train.wagon(3, 0), BAD);
        CHECKS.due("emptyAfter()", train.emptyAfter(), 0);
        CHECKS.due("load(2, 200)", train.load(2, 200), 200);
        CHECKS.due("load(3, 1)", train.load(3, 1), BAD);
    }

    /** P1: "on an empty track". */
    private static void anEmptyTrack() {
        BallastTrain train = new BallastTrain();
        for (int cell = 0; cell < 40; cell++) {
            for (int strip = 0; strip < 3; strip++) {
                CHECKS.due("height(" + cell + ", " + strip + ")", train.height(cell, strip), 0);
            }
        }
        CHECKS.due("scrape(0, 0, 60)", train.scrape(0, 0, 60), 0);
        CHECKS.due("scrape(39, 2, 60)", train.scrape(39, 2, 60), 0);
        CHECKS.due("lacking(-1)", train.lacking(-1), 3 * 40 * 8);
    }

    /** P1: "with an empty text"; and no orders and no history. */
    private static void anEmptyText() {
        BallastTrain train = new BallastTrain();
        CHECKS.due("clearText()", train.clearText(), 0);
        CHECKS.due("fault()", train.fault(), NONE);
        CHECKS.due("undo()", train.undo(), BallastTrain.STATE);
        CHECKS.due("cancel(0)", train.cancel(0), BAD);
        CHECKS.due("ordered(0, 0)", train.ordered(0, 0), NONE);
        CHECKS.due("order()", train.order(), 0);
        CHECKS.due("type(0)", train.type(0), 1);
    }

    /** P1: what is done with one object does not show in another, made before or after. */
    private static void everyObjectIsNew() {
        BallastTrain before = new BallastTrain();
        long digest = before.digest();
        BallastTrain busy = Trains.going();
        busy.pass(200);
        CHECKS.due("digest() of the one made before", before.digest(), digest);
        CHECKS.due("digest() of one made after", new BallastTrain().digest(), digest);
        CHECKS.same("of two new ones", before, new BallastTrain());
    }

    /** P23: "what: 0 ..., 18"; "BAD". */
    private static void countTells0To18() {
        refused("count(-1)", x -> x.count(-1), BAD);
        refused("count(19)", x -> x.count(19), BAD);
        for (int what : FAR) {
            refused("count(" + what + ")", x -> x.count(what), BAD);
        }
    }

    /** P23: each number at first. */
    private static void countsAtFirst() {
        int[] first = {3, -1, 0, 0, 0, 0, 0, 0, 0, 0, 0, 0, 0, 0, 4, 12, 1, 100, 8};
        for (int what = 0; what <= 18; what++) {
            int number = what;
            CHECKS.changesNothing("count(" + what + ")", BallastTrain::new, x -> x.count(number), first[what]);
        }
    }

    private static void counts(String when, BallastTrain train, int from, int... want) {
        for (int i = 0; i < want.length; i++) {
            CHECKS.due("count(" + (from + i) + ") " + when, train.count(from + i), want[i]);
        }
    }

    /** P23: "0 for the number of wagons, 1 for the place, 2 for the speed, 3 for the wish", least and greatest. */
    private static void wagonsPlaceSpeedAndWish() {
        BallastTrain train = new BallastTrain();
        train.setTrain(6);
        train.wish(3);
        counts("before it goes", train, 0, 6, -1, 0, 3);
        train.pass(50);
        counts("at the last place", train, 0, 6, 99, 3, 3);
        train.wish(0);
        counts("before it stops", train, 0, 6, 99, 3, 0);
        train.pass(3);
        counts("when it stands", train, 0, 6, 99, 0, 0);
        train.setTrain(1);
        counts("when it is new", train, 0, 1, -1, 0, 0);
    }

    /** P23: "4 for the time"; "Time is an integer, 0 at first, at most 9999". */
    private static void theTimeFrom0To9999() {
        for (int time : new int[] {0, 1, 200, 201, 9998, 9999}) {
            CHECKS.due("count(4)", Trains.atTime(time).count(4), time);
        }
    }

    /** P23: "5 for the number of orders". */
    private static void ordersFrom0To10() {
        for (int orders = 0; orders <= 10; orders++) {
            BallastTrain train = Trains.ordered(new BallastTrain(), "@39v1;".repeat(orders));
            CHECKS.due("count(5)", train.count(5), orders);
        }
    }

    /** P23: "6 for that of jams since the beginning", which setTrain() leaves. */
    private static void jamsSinceTheBeginning() {
        BallastTrain train = new BallastTrain();
        train.set(2, 0);
        train.set(3, 0);
        int jams = 0;
        for (int wagons = 1; wagons <= 6; wagons++) {
            train.setTrain(wagons);
            for (int wagon = 0; wagon < wagons; wagon++) {
                train.load(wagon, 4);
                for (int door = 0; door < 3; door++) {
                    train.door(wagon, door, 1);
                    train.door(wagon, door, 0);
                }
            }
            train.pass(1);
            jams += 3 * wagons;
            CHECKS.due("count(6)", train.count(6), jams);
        }
        train.setTrain(1);
        CHECKS.due("count(6) behind setTrain", train.count(6), 63);
    }

    /** P23: "7 ... units that were loaded ..., 8 ... in wagons, 9 ... on the track, 10 ... lost, 11 ... taken away". */
    private static void unitsAreSomewhere() {
        BallastTrain train = new BallastTrain();
        train.load(0, 1);
        counts("with one unit in a wagon", train, 7, 1, 1, 0, 0, 0);
        train.door(0, 0, 1);
        train.pass(1);
        counts("with one unit lost", train, 7, 1, 0, 0, 1, 0);
        train.load(0, 2);
        train.wish(1);
        train.pass(1);
        counts("with one unit on the track", train, 7, 3, 1, 1, 1, 0);
        train.scrape(0, 0, 1);
        counts("with one unit taken away", train, 7, 3, 1, 0, 1, 1);
        train.setTrain(6);
        counts("with two units taken away", train, 7, 3, 0, 0, 1, 2);
        for (int wagon = 0; wagon < 6; wagon++) {
            train.load(wagon, 200);
        }
        counts("with all that fits", train, 7, 1203, 1200, 0, 1, 2);
        train.load(5, 1);
        counts("with no more", train, 7, 1203, 1200, 0, 1, 2);
    }

    /** P23: "12 for the number of states in the history". */
    private static void statesFrom0To6() {
        BallastTrain train = new BallastTrain();
        for (int changes = 1; changes <= 8; changes++) {
            train.wish(changes % 4);
            CHECKS.due("count(12) behind " + changes, train.count(12), Math.min(changes, 6));
        }
        for (int left = 5; left >= 0; left--) {
            train.undo();
            CHECKS.due("count(12) behind undo()", train.count(12), left);
        }
        train.undo();
        CHECKS.due("count(12) behind a refused undo()", train.count(12), 0);
    }

    /** P23: "13 for the length of the text". */
    private static void theTextFrom0To60Bytes() {
        BallastTrain train = new BallastTrain();
        for (int length = 1; length <= 62; length++) {
            train.type(32);
            CHECKS.due("count(13) behind " + length + " bytes", train.count(13), Math.min(length, 60));
        }
        train.clearText();
        CHECKS.due("count(13) behind clearText()", train.count(13), 0);
    }

    /** P23: "14 to 18 for the settings", the least and the greatest of each. */
    private static void theSettingsAreTheLast() {
        int[] least = {1, 1, 0, 0, 0};
        int[] most = {20, 60, 9, 200, 60};
        BallastTrain train = new BallastTrain();
        for (int what = 0; what < 5; what++) {
            train.set(what, least[what]);
        }
        counts("with the least settings", train, 14, least);
        for (int what = 0; what < 5; what++) {
            train.set(what, most[what]);
        }
        counts("with the greatest settings", train, 14, most);
    }

    private static void digest(String when, BallastTrain train, String text) {
        CHECKS.due("digest() " + when, train.digest(), NumbersTest.digestOf(train, text));
    }

    /** P24: with one wagon, no order and no text; "in long arithmetic with overflow". */
    private static void digestOfTheLeast() {
        digest("of a new train", new BallastTrain(), "");
        CHECKS.due("digest() of the first shared run", firstSharedRun().digest(), 2715995197540956381L);
        BallastTrain train = new BallastTrain();
        train.setTrain(1);
        for (int what = 0; what < 5; what++) {
            train.set(what, what < 2 ? 1 : 0);
        }
        digest("with the least of all", train, "");
    }

    /** The changes of the first run of ../shared/tests, where this digest is due. */
    private static BallastTrain firstSharedRun() {
        BallastTrain train = new BallastTrain();
        train.order();
        train.load(0, 200);
        train.door(0, 0, 0);
        train.scrape(0, 0, 5);
        train.undo();
        return train;
    }

    /** P24: with six full wagons, ten orders, sixty bytes, and much on the track. */
    private static void digestOfTheMost() {
        String[] texts = {"x".repeat(60), "\0\u007f @", ""};
        int[] seconds = {0, 20, 200};
        for (int i = 0; i < texts.length; i++) {
            BallastTrain train = sixFullWagons();
            CHECKS.due("orders", train.count(5), 10);
            if (seconds[i] > 0) {
                train.pass(seconds[i]);
            }
            digest("after " + seconds[i] + " seconds", Trains.typed(train, texts[i]), texts[i]);
        }
    }

    private static BallastTrain sixFullWagons() {
        BallastTrain train = new BallastTrain();
        train.setTrain(6);
        for (int wagon = 0; wagon < 6; wagon++) {
            train.load(wagon, 200);
        }
        Trains.ordered(train, "@39o5l1;@38c4m;@39v0;@0o0r3;@0o1m2;@2c1m;");
        Trains.ordered(train, "@37o5l1;@36c4m;@39v3;@0o2r3;");
        train.wish(1);
        return train;
    }

    /** P24: each of the numbers counts: two trains that differ in one of them have two digests. */
    private static void digestOfEachPart() {
        Checks.Call[] changes = {
            x -> x.wish(1), x -> x.wish(2), x -> x.set(0, 5), x -> x.set(1, 5), x -> x.set(2, 5), x -> x.set(3, 5),
            x -> x.set(4, 5), x -> x.setTrain(2), x -> x.load(0, 1), x -> x.load(1, 1), x -> x.load(2, 1),
            x -> x.door(0, 0, 1), x -> x.door(2, 2, 1), x -> x.door(2, 2, 2), x -> x.pass(1), x -> x.pass(2),
            x -> x.order(), x -> Trains.typed(x, "@1v1;").order(), x -> Trains.typed(x, "@1v2;").order(),
            x -> x.type(0), x -> x.type(1), x -> 0};
        long[] digests = new long[changes.length];
        for (int i = 0; i < changes.length; i++) {
            BallastTrain train = new BallastTrain();
            changes[i].on(train);
            digests[i] = train.digest();
            for (int j = 0; j < i; j++) {
                CHECKS.due("the digests " + i + " and " + j + " are two", digests[i] != digests[j] ? 1 : 0, 1);
            }
        }
    }

    /** P24 is told under "numbers, digest": it is no change, however often it is asked. */
    private static void digestChangesNothing() {
        for (Checks.Maker maker : new Checks.Maker[] {BallastTrain::new, Trains::standing, Trains::going}) {
            long digest = maker.make().digest();
            CHECKS.changesNothing("digest()", maker, x -> x.digest(), digest);
            BallastTrain train = maker.make();
            for (int i = 0; i < 3; i++) {
                CHECKS.due("digest() again", train.digest(), digest);
            }
        }
    }
}
