/** Promises 13, 17, 18 and 19: scrape, height, profile, lacking. */
public final class TrackTest {
    private static final Checks CHECKS = new Checks();

    public static void main(String[] args) {
        wrongPlaces();
        scraping();
        profileOfAnEmptyStrip();
        profileOfHeaps();
        cellsThatLack();
        CHECKS.end();
    }

    /** Heaps that never slide: the slope is 20, and each is made by a train of its own. */
    private static BallastTrain withHeaps(int strip, int[] cells, int[] heights) {
        BallastTrain train = new BallastTrain();
        train.set(0, 20);
        train.set(1, 60);
        train.set(2, 0);
        for (int i = 0; i < cells.length; i++) {
            heap(train, cells[i], strip, heights[i]);
        }
        return train;
    }

    private static void wrongPlaces() {
        BallastTrain train = withHeaps(0, new int[] {0}, new int[] {5});
        CHECKS.due("height(0, 0)", train.height(0, 0), 5);
        CHECKS.due("height(39, 2)", train.height(39, 2), 0);
        int[][] wrong = {{-1, 0}, {40, 0}, {0, -1}, {0, 3}, {Integer.MAX_VALUE, 0}, {0, Integer.MIN_VALUE}};
        long before = train.digest();
        for (int[] place : wrong) {
            CHECKS.due("height of a wrong place", train.height(place[0], place[1]), BallastTrain.BAD);
            CHECKS.due("scrape of a wrong place", train.scrape(place[0], place[1], 1), BallastTrain.BAD);
        }
        CHECKS.due("scrape(0, 0, 0)", train.scrape(0, 0, 0), BallastTrain.BAD);
        CHECKS.due("scrape(0, 0, -1)", train.scrape(0, 0, -1), BallastTrain.BAD);
        CHECKS.due("scrape(0, 0, 61)", train.scrape(0, 0, 61), BallastTrain.BAD);
        CHECKS.unchanged("wrong scrapes", train, before);
        CHECKS.due("profile(-1, 0)", train.profile(-1, 0), BallastTrain.BAD);
        CHECKS.due("profile(3, 0)", train.profile(3, 0), BallastTrain.BAD);
        CHECKS.due("profile(0, -1)", train.profile(0, -1), BallastTrain.BAD);
        CHECKS.due("profile(0, 6)", train.profile(0, 6), BallastTrain.BAD);
        CHECKS.due("lacking(-2)", train.lacking(-2), BallastTrain.BAD);
        CHECKS.due("lacking(MIN_VALUE)", train.lacking(Integer.MIN_VALUE), BallastTrain.BAD);
    }

    private static void scraping() {
        BallastTrain train = withHeaps(2, new int[] {7}, new int[] {9});
        int before = train.count(11);
        CHECKS.due("scrape less than there is", train.scrape(7, 2, 4), 4);
        CHECKS.due("height", train.height(7, 2), 5);
        CHECKS.due("scrape more than there is", train.scrape(7, 2, 60), 5);
        CHECKS.due("height", train.height(7, 2), 0);
        CHECKS.due("scrape nothing", train.scrape(7, 2, 1), 0);
        CHECKS.due("taken away", train.count(11) - before, 9);
        CHECKS.due("lost", train.count(10), 0);
        CHECKS.due("states", train.count(12), 6);
        CHECKS.due("undo()", train.undo(), 5);
        train.undo();
        CHECKS.due("scraping nothing was a change", train.height(7, 2), 5);
    }

    private static void profile(BallastTrain train, int strip, int... want) {
        for (int what = 0; what < want.length; what++) {
            CHECKS.due("profile(" + strip + ", " + what + ")", train.profile(strip, what), want[what]);
        }
    }

    private static void profileOfAnEmptyStrip() {
        BallastTrain train = new BallastTrain();
        profile(train, 0, 0, 0, 0, 0, 0, 0);
        train.set(4, 0);
        profile(train, 2, 0, 0, 0, 40, 40, 0);
    }

    private static void profileOfHeaps() {
        BallastTrain train = withHeaps(1, new int[] {2, 3, 5, 6, 7, 39}, new int[] {8, 15, 9, 15, 10, 20});
        profile(train, 1, 77, 20, 39, 6, 3, 20);
        profile(train, 0, 0, 0, 0, 0, 0, 0);
        train.scrape(39, 1, 6);
        profile(train, 1, 71, 15, 3, 6, 3, 15);
        train.set(4, 9);
        profile(train, 1, 71, 15, 3, 5, 3, 15);
        train.set(4, 10);
        profile(train, 1, 71, 15, 3, 4, 2, 15);
        train.set(4, 14);
        profile(train, 1, 71, 15, 3, 3, 1, 15);
        train.scrape(3, 1, 60);
        profile(train, 1, 56, 15, 6, 2, 1, 14);
        profile(withHeaps(0, new int[] {0, 1, 39}, new int[] {9, 8, 8}), 0, 25, 9, 0, 3, 2, 8);
        profile(withHeaps(2, new int[] {0}, new int[] {9}), 2, 9, 9, 0, 1, 1, 9);
        profile(withHeaps(2, new int[] {0, 1}, new int[] {8, 9}), 2, 17, 9, 1, 2, 2, 9);
    }

    private static void cellsThatLack() {
        BallastTrain train = withHeaps(1, new int[] {0, 38, 39}, new int[] {8, 9, 7});
        CHECKS.due("lacking units", train.lacking(-1), 960 - 8 - 8 - 7);
        for (int i = 0; i < 40; i++) {
            CHECKS.due("lacking(" + i + ")", train.lacking(i), i);
        }
        CHECKS.due("lacking(40)", train.lacking(40), BallastTrain.NONE);
        CHECKS.due("lacking(MAX_VALUE)", train.lacking(Integer.MAX_VALUE), BallastTrain.NONE);
        BallastTrain full = withHeaps(0, new int[] {1, 3}, new int[] {2, 2});
        heap(full, 1, 1, 2);
        heap(full, 1, 2, 3);
        heap(full, 3, 1, 2);
        heap(full, 3, 2, 1);
        full.set(4, 2);
        CHECKS.due("a cell that has enough", full.lacking(1), 2);
        CHECKS.due("a cell with one low strip", full.lacking(2), 3);
        CHECKS.due("the last cell", full.lacking(38), 39);
        CHECKS.due("no cell", full.lacking(39), BallastTrain.NONE);
        CHECKS.due("units up to the aim", full.lacking(-1), 240 - 11);
        full.set(4, 1);
        CHECKS.due("two cells have enough", full.lacking(2), 4);
        for (int strip = 0; strip < 3; strip++) {
            full.scrape(3, strip, 60);
            CHECKS.due("strip " + strip + " alone is low", full.lacking(2), 3);
            full.undo();
        }
        full.set(4, 0);
        CHECKS.due("nothing lacks", full.lacking(0), BallastTrain.NONE);
        CHECKS.due("no units lack", full.lacking(-1), 0);
    }

    private static void heap(BallastTrain train, int cell, int strip, int height) {
        train.setTrain(1);
        train.wish(1);
        train.pass(cell + 1);
        train.wish(0);
        train.pass(1);
        train.load(0, height);
        train.door(0, strip, 1);
        train.pass(height);
    }
}
