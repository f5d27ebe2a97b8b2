/** Makes the trains that the tests begin with. */
final class Trains {
    private Trains() {
    }

    /** Replaces the text. */
    static BallastTrain typed(BallastTrain train, String text) {
        train.clearText();
        for (int i = 0; i < text.length(); i++) {
            train.type(text.charAt(i));
        }
        return train;
    }

    static BallastTrain typed(String text) {
        return typed(new BallastTrain(), text);
    }

    /** Adds orders to the list. */
    static BallastTrain ordered(BallastTrain train, String text) {
        typed(train, text).order();
        return train;
    }

    /** A train of one wagon that stands with its doors above a cell. */
    static BallastTrain standingAt(int cell, int load) {
        BallastTrain train = new BallastTrain();
        train.setTrain(1);
        goTo(train, cell);
        if (load > 0) {
            train.load(0, load);
        }
        return train;
    }

    /** Lets a new train go to a place, a cell in a second, and stand there. */
    static void goTo(BallastTrain train, int place) {
        if (place >= 0) {
            train.wish(1);
            train.pass(place + 1);
            train.wish(0);
            train.pass(1);
        }
    }

    /** Puts a heap on a strip, by a train of its own; it stays as it is if the slope lets it. */
    static void heap(BallastTrain train, int cell, int strip, int height) {
        train.setTrain(1);
        goTo(train, cell);
        train.load(0, height);
        train.door(0, strip, 1);
        train.pass(height);
    }

    /** A strip with heights up to 20 from the cell 0 on; the slope is 20 and the limit 60 then. */
    static BallastTrain withHeights(int strip, int... heights) {
        BallastTrain train = new BallastTrain();
        train.set(0, 20);
        train.set(1, 60);
        for (int cell = 0; cell < heights.length; cell++) {
            if (heights[cell] > 0) {
                heap(train, cell, strip, heights[cell]);
            }
        }
        return train;
    }

    /** A busy train that stands, with three wagons: one full, one with 179 units and one empty. */
    static BallastTrain standing() {
        BallastTrain train = new BallastTrain();
        train.load(0, 197);
        train.load(1, 200);
        train.set(0, 2);
        train.set(1, 5);
        ordered(train, "@20c0m;@39o5l1;@30v1;");
        train.door(1, 0, 3);
        train.wish(1);
        train.pass(6);
        train.wish(0);
        train.pass(1);
        train.set(2, 3);
        train.door(1, 0, 0);
        train.door(0, 1, 2);
        train.set(4, 3);
        train.load(0, 3);
        return typed(train, "@1v1; @2c0l;");
    }

    /** The same train on its way, with the speed 2. */
    static BallastTrain going() {
        BallastTrain train = standing();
        train.wish(2);
        train.pass(2);
        return train;
    }

    /** A train that stands before the track, at a time. */
    static BallastTrain atTime(int time) {
        BallastTrain train = new BallastTrain();
        int left = time;
        while (left > 0) {
            int seconds = Math.min(200, left);
            train.pass(seconds);
            left -= seconds;
        }
        return train;
    }

    /** A train at the time 9998: it is about to go, with 200 units and an open door. */
    static BallastTrain lateAndBusy() {
        BallastTrain train = atTime(9998);
        train.load(1, 200);
        train.door(1, 0, 1);
        ordered(train, "@0o0l1;@9c1l;");
        train.wish(2);
        return typed(train, "@5v0;");
    }
}
