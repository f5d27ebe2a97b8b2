/** Compares answers with those that are due, and ends the program with 1 if one was wrong. */
final class Checks {
    private static final int MOST_TOLD = 20;
    private static final int MOST_STATES = 6;

    private int right = 0;
    private int wrong = 0;

    /** Makes the same train, each time anew. */
    interface Maker {
        BallastTrain make();
    }

    /** Calls a method of a train. */
    interface Call {
        long on(BallastTrain train);
    }

    void due(String call, long got, long want) {
        if (got == want) {
            right++;
        } else {
            wrong++;
            if (wrong <= MOST_TOLD) {
                System.out.println(call + " answered " + got + ", due is " + want);
            }
        }
    }

    /** For a call that returned an error, or only told something; the digest before it is given. */
    void unchanged(String call, BallastTrain train, long before) {
        due("digest() after " + call, train.digest(), before);
    }

    /** For a call that returns an error or only tells something: nothing is different from a train without it. */
    void changesNothing(String name, Maker maker, Call call, long want) {
        BallastTrain called = maker.make();
        BallastTrain spared = maker.make();
        due(name, call.on(called), want);
        same("after " + name, called, spared);
    }

    /** Compares all that the trains tell, then the states of their histories, back to the oldest. */
    void same(String when, BallastTrain one, BallastTrain other) {
        due("fault() " + when, one.fault(), other.fault());
        due("digest() " + when, one.digest(), other.digest());
        for (int i = 0; i <= MOST_STATES; i++) {
            due("undo() no. " + i + " " + when, one.undo(), other.undo());
            due("digest() behind undo() no. " + i + " " + when, one.digest(), other.digest());
        }
        due("order() " + when, one.order(), other.order());
        due("digest() behind order() " + when, one.digest(), other.digest());
    }

    void end() {
        System.out.println(right + " right, " + wrong + " wrong");
        if (wrong != 0) {
            System.exit(1);
        }
    }
}
