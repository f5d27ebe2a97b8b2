/** Promises 1, 23 and 24: a new object, count, digest. */
public final class NumbersTest {
    private static final Checks CHECKS = new Checks();

    public static void main(String[] args) {
        newObject();
        numbers();
        wrongNumbers();
        digestOfANewObject();
        digestOfABusyOne();
        CHECKS.end();
    }

    private static void newObject() {
        BallastTrain train = new BallastTrain();
        int[] counts = {3, -1, 0, 0, 0, 0, 0, 0, 0, 0, 0, 0, 0, 0, 4, 12, 1, 100, 8};
        for (int what = 0; what < counts.length; what++) {
            CHECKS.due("count(" + what + ")", train.count(what), counts[what]);
        }
        for (int wagon = 0; wagon < 3; wagon++) {
            CHECKS.due("load", train.wagon(wagon, 0), 0);
            CHECKS.due("cell", train.wagon(wagon, 1), -1 - 4 * wagon);
            for (int door = 0; door < 3; door++) {
                CHECKS.due("level", train.doorOf(wagon, door, 0), 0);
                CHECKS.due("rest", train.doorOf(wagon, door, 1), BallastTrain.NONE);
            }
        }
        for (int cell = 0; cell < 40; cell++) {
            for (int strip = 0; strip < 3; strip++) {
                CHECKS.due("height", train.height(cell, strip), 0);
            }
        }
        CHECKS.due("fault()", train.fault(), BallastTrain.NONE);
        CHECKS.due("ordered(0, 0)", train.ordered(0, 0), BallastTrain.NONE);
    }

    private static BallastTrain busy() {
        BallastTrain train = new BallastTrain();
        Trains.typed(train, "@39o5l1;@30c0m;@35v1; @ ");
        train.order();
        Trains.typed(train, "@39o5l1;@30c0m;@35v1;");
        train.order();
        train.type(120);
        train.setTrain(2);
        train.load(0, 200);
        train.setTrain(2);
        train.load(0, 200);
        train.load(1, 44);
        train.set(0, 3);
        train.set(1, 2);
        train.set(2, 0);
        train.set(3, 150);
        train.set(4, 6);
        train.door(0, 0, 3);
        train.door(0, 1, 2);
        train.door(1, 2, 1);
        train.wish(2);
        train.pass(3);
        train.door(0, 0, 0);
        train.pass(1);
        train.scrape(2, 1, 1);
        train.wish(3);
        train.undo();
        train.set(2, 5);
        train.door(0, 1, 0);
        return train;
    }

    /*
     * Place: 0, 2, 4, 6 after the four seconds. The wagon 0 drops 3 left and 2 middle in each of them:
     * 20 units; the wagon 1 drops 1 right in each of them: at -4 and -2, which is lost, and at 0 and 2.
     * On the left strip, 1 of each 3 units is lost by the limit 2.
     */
    private static void numbers() {
        BallastTrain train = busy();
        int[] counts = {2, 6, 2, 2, 4, 3, 1, 444, 220, 17, 6, 201, 6, 22, 3, 2, 5, 150, 6};
        for (int what = 0; what < counts.length; what++) {
            CHECKS.due("count(" + what + ") of a busy train", train.count(what), counts[what]);
        }
        CHECKS.due("loaded units are somewhere", train.count(7),
                train.count(8) + train.count(9) + train.count(10) + train.count(11));
    }

    private static void wrongNumbers() {
        BallastTrain train = new BallastTrain();
        int[] wrong = {-1, 19, Integer.MAX_VALUE, Integer.MIN_VALUE};
        for (int what : wrong) {
            CHECKS.due("count(" + what + ")", train.count(what), BallastTrain.BAD);
        }
    }

    private static void digestOfANewObject() {
        BallastTrain train = new BallastTrain();
        CHECKS.due("digest()", train.digest(), digestOf(train, ""));
        CHECKS.due("digest() again", train.digest(), digestOf(train, ""));
        CHECKS.due("digest() is no change", train.count(12), 0);
    }

    private static void digestOfABusyOne() {
        BallastTrain train = busy();
        CHECKS.due("digest()", train.digest(), digestOf(train, "@39o5l1;@30c0m;@35v1;x"));
        BallastTrain six = busy();
        six.setTrain(6);
        Trains.typed(six, "a b").wish(3);
        CHECKS.due("digest()", six.digest(), digestOf(six, "a b"));
    }

    /** The digest as the document tells it, from the answers of the other methods. */
    static long digestOf(BallastTrain x, String text) {
        long[] h = {149};
        for (int what = 0; what <= 18; what++) {
            add(h, x.count(what));
        }
        for (int w = 0; w < x.count(0); w++) {
            for (int what = 0; what <= 4; what++) {
                add(h, x.wagon(w, what));
            }
            for (int d = 0; d <= 2; d++) {
                add(h, x.doorOf(w, d, 0));
                add(h, x.doorOf(w, d, 1));
            }
        }
        for (int cell = 0; cell <= 39; cell++) {
            for (int strip = 0; strip <= 2; strip++) {
                add(h, x.height(cell, strip));
            }
        }
        for (int s = 0; s <= 2; s++) {
            for (int what = 0; what <= 5; what++) {
                add(h, x.profile(s, what));
            }
        }
        add(h, x.lacking(-1));
        for (int i = 0; i < x.count(5); i++) {
            for (int what = 0; what <= 4; what++) {
                add(h, x.ordered(i, what));
            }
        }
        for (int what = 0; what <= 6; what++) {
            add(h, x.foretell(20, what));
        }
        add(h, x.emptyAfter());
        for (int i = 0; i < text.length(); i++) {
            add(h, text.charAt(i));
        }
        return h[0];
    }

    private static void add(long[] h, int v) {
        h[0] = 31 * h[0] + v;
    }
}
