/** Promises 21 and 22: foretell, emptyAfter. */
public final class ForetellTest {
    private static final Checks CHECKS = new Checks();

    public static void main(String[] args) {
        wrongQuestions();
        whatWouldBe();
        aboveTheLastTime();
        emptyAtOnce();
        emptyLater();
        emptyAfterFourHundred();
        neverEmpty();
        CHECKS.end();
    }

    private static BallastTrain working() {
        BallastTrain train = new BallastTrain();
        train.load(0, 200);
        train.load(1, 60);
        train.set(1, 3);
        train.set(0, 2);
        Trains.typed(train, "@0o0l3;@1o0m2;@9c0l;@2o1r1;@39o5l1;@20v0;").order();
        train.wish(2);
        return train;
    }

    private static void wrongQuestions() {
        BallastTrain train = working();
        long before = train.digest();
        CHECKS.due("foretell(0, 0)", train.foretell(0, 0), BallastTrain.BAD);
        CHECKS.due("foretell(-1, 0)", train.foretell(-1, 0), BallastTrain.BAD);
        CHECKS.due("foretell(201, 0)", train.foretell(201, 0), BallastTrain.BAD);
        CHECKS.due("foretell(1, -1)", train.foretell(1, -1), BallastTrain.BAD);
        CHECKS.due("foretell(1, 7)", train.foretell(1, 7), BallastTrain.BAD);
        CHECKS.unchanged("foretell", train, before);
    }

    private static void whatWouldBe() {
        int[] seconds = {1, 2, 5, 7, 12, 13, 30, 199, 200};
        int[] numbers = {1, 8, 9, 10, 6, -1, 5};
        for (int s : seconds) {
            BallastTrain train = working();
            int[] foretold = new int[numbers.length];
            for (int what = 0; what < foretold.length; what++) {
                foretold[what] = train.foretell(s, what);
            }
            train.pass(s);
            for (int what = 0; what < foretold.length; what++) {
                int then = numbers[what] < 0 ? train.lacking(-1) : train.count(numbers[what]);
                CHECKS.due("foretell(" + s + ", " + what + ")", foretold[what], then);
            }
        }
        CHECKS.due("a jam is foretold", working().foretell(12, 4), 1);
        CHECKS.due("an order is left", working().foretell(200, 6), 1);
    }

    private static void aboveTheLastTime() {
        BallastTrain train = new BallastTrain();
        train.load(0, 30);
        train.door(0, 0, 1);
        train.door(0, 0, 0);
        for (int i = 0; i < 49; i++) {
            train.pass(200);
        }
        train.pass(199);
        train.door(0, 0, 1);
        train.wish(3);
        CHECKS.due("place", train.foretell(200, 0), 99);
        CHECKS.due("in wagons", train.foretell(2, 1), 26);
        CHECKS.due("emptyAfter()", train.emptyAfter(), 28);
        CHECKS.due("time", train.count(4), 9999);
    }

    private static void emptyAtOnce() {
        BallastTrain train = new BallastTrain();
        CHECKS.due("emptyAfter() of a new train", train.emptyAfter(), 0);
        train.load(2, 1);
        train.setTrain(2);
        CHECKS.due("emptyAfter() of an unloaded train", train.emptyAfter(), 0);
    }

    private static void emptyLater() {
        BallastTrain train = new BallastTrain();
        train.load(0, 7);
        train.load(2, 1);
        train.door(0, 1, 2);
        CHECKS.due("one wagon stays full", train.emptyAfter(), BallastTrain.NONE);
        train.door(2, 0, 3);
        CHECKS.due("both wagons", train.emptyAfter(), 4);
        long before = train.digest();
        train.emptyAfter();
        CHECKS.unchanged("emptyAfter()", train, before);
        train.door(0, 1, 0);
        CHECKS.due("the door closes", train.emptyAfter(), BallastTrain.NONE);
        Trains.typed(train, "@10o0m3;").order();
        train.wish(1);
        CHECKS.due("an order opens it", train.emptyAfter(), 11);
        train.set(3, 0);
        CHECKS.due("a jam keeps it open", train.emptyAfter(), 5);
    }

    private static void emptyAfterFourHundred() {
        BallastTrain train = new BallastTrain();
        train.setTrain(6);
        Trains.typed(train, "@39o5l1;").order();
        train.load(5, 200);
        train.wish(1);
        CHECKS.due("place 59 after 60 seconds, then 200", train.emptyAfter(), 259);
        train.pass(10);
        CHECKS.due("ten seconds later", train.emptyAfter(), 249);
    }

    private static void neverEmpty() {
        BallastTrain train = new BallastTrain();
        train.load(0, 1);
        CHECKS.due("closed doors", train.emptyAfter(), BallastTrain.NONE);
    }
}
