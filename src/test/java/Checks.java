/** Compares answers with those that are due, and ends the program with 1 if one was wrong. */
final class Checks {
    private static final int MOST_TOLD = 20;

    private int right = 0;
    private int wrong = 0;

    void due(String call, long got, long want) {
        if (got == want) {
            right++;
        } else {
            wrong++;
            if (wrong <= MOST_TOLD) {
                System.out.println(call + " answered " + got + ", due is " + want);
            }
        }
    }

    /** For a call that returned an error, or only told something; the digest before it is given. */
    void unchanged(String call, BallastTrain train, long before) {
        due("digest() after " + call, train.digest(), before);
    }

    void end() {
        System.out.println(right + " right, " + wrong + " wrong");
        if (wrong != 0) {
            System.exit(1);
        }
    }

    /** Replaces the text. */
    static BallastTrain typed(BallastTrain train, String text) {
        train.clearText();
        for (int i = 0; i < text.length(); i++) {
            train.type(text.charAt(i));
        }
        return train;
    }

    static BallastTrain typed(String text) {
        return typed(new BallastTrain(), text);
    }

    /** A train of one wagon that stands with its doors above a cell. */
    static BallastTrain standingAt(int cell, int load) {
        BallastTrain train = new BallastTrain();
        train.setTrain(1);
        train.wish(1);
        train.pass(cell + 1);
        train.wish(0);
        train.pass(1);
        if (load > 0) {
            train.load(0, load);
        }
        return train;
    }
}
