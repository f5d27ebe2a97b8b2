/** The edges that the promises 13, 17, 18 and 19 name; a test for each sentence. */
public final class TrackEdgesTest {
    private static final int BAD = BallastTrain.BAD, NONE = BallastTrain.NONE;
    private static final int CELLS = 40;
    private static final int[] FAR = {Integer.MIN_VALUE, -65536, 65536, Integer.MAX_VALUE};
    private static final Checks CHECKS = new Checks();

    public static void main(String[] args) {
        scrapeNamesACell();
        scrapeNamesAStrip();
        mostIs1To60();
        atMostWhatLiesThere();
        scrapingNothingIsAChange();
        whatIsScrapedIsTakenAway();
        heightNamesACell();
        heightNamesAStrip();
        profileNamesAStrip();
        profileTells0To5();
        sumOfHeights();
        greatestHeightAndFirstCellWithIt();
        cellsWhoseHeightIsAtLeastTheAim();
        longestRowOfSuchCells();
        greatestDifferenceOfNeighbours();
        lackingIsBadBelowMinus1();
        lackingCellsByAscendingNumbers();
        oneOfWhoseStripsIsLowerThanTheAim();
        noneIfThereAreNotSoMany();
        unitsThatAreLackingUpToTheAim();
        CHECKS.end();
    }

    private static void refused(String name, Checks.Call call, int error) {
        CHECKS.changesNothing(name + " on a standing train", Trains::standing, call, error);
        CHECKS.changesNothing(name + " on a going train", Trains::going, call, error);
        CHECKS.changesNothing(name + " on a new train", BallastTrain::new, call, error);
    }

    /** Three on each strip of each cell, and nothing slides. */
    private static BallastTrain threeEverywhere() {
        BallastTrain train = new BallastTrain();
        train.setTrain(2);
        train.load(0, 200);
        train.load(1, 160);
        Trains.ordered(train, "@0o0l3;@0o0m2;@0o1m1;@0o1r3;");
        train.wish(1);
        train.pass(44);
        return train;
    }

    /** P13: "cell: 0 to 39". */
    private static void scrapeNamesACell() {
        for (int cell : new int[] {0, 1, 38, 39}) {
            BallastTrain train = Trains.standingAt(cell, 3);
            train.door(0, 1, 3);
            train.pass(1);
            CHECKS.due("scrape(" + cell + ", 1, 2)", train.scrape(cell, 1, 2), 2);
            CHECKS.due("height", train.height(cell, 1), 1);
            CHECKS.due("on the track", train.count(9), 1);
        }
        for (int strip = 0; strip < 3; strip++) {
            int there = strip;
            refused("scrape(-1, " + strip + ", 1)", x -> x.scrape(-1, there, 1), BAD);
            refused("scrape(40, " + strip + ", 1)", x -> x.scrape(40, there, 1), BAD);
        }
        for (int cell : FAR) {
            refused("scrape(" + cell + ", 0, 1)", x -> x.scrape(cell, 0, 1), BAD);
        }
    }

    /** P13: "strip: 0 to 2"; the strips beside it stay as they are. */
    private static void scrapeNamesAStrip() {
        for (int strip = 0; strip < 3; strip++) {
            BallastTrain train = Trains.standingAt(5, 9);
            for (int door = 0; door < 3; door++) {
                train.door(0, door, 3);
            }
            train.pass(1);
            CHECKS.due("scrape(5, " + strip + ", 2)", train.scrape(5, strip, 2), 2);
            for (int other = 0; other < 3; other++) {
                CHECKS.due("height(5, " + other + ")", train.height(5, other), other == strip ? 1 : 3);
            }
        }
        for (int cell : new int[] {0, 5, 39}) {
            refused("scrape(" + cell + ", -1, 1)", x -> x.scrape(cell, -1, 1), BAD);
            refused("scrape(" + cell + ", 3, 1)", x -> x.scrape(cell, 3, 1), BAD);
        }
        for (int strip : FAR) {
            refused("scrape(0, " + strip + ", 1)", x -> x.scrape(0, strip, 1), BAD);
        }
    }

    /** P13: "most: 1 to 60, how many units at most"; nothing is scraped with a wrong one. */
    private static void mostIs1To60() {
        for (int most : new int[] {1, 2, 59, 60}) {
            BallastTrain train = highHeap();
            CHECKS.due("scrape(39, 1, " + most + ")", train.scrape(39, 1, most), most);
            CHECKS.due("height", train.height(39, 1), 62 - most);
            CHECKS.due("taken away", train.count(11), most);
        }
        for (int most : new int[] {0, -1, -60, 61}) {
            refused("scrape(0, 0, " + most + ")", x -> x.scrape(0, 0, most), BAD);
            CHECKS.changesNothing("scrape(39, 1, " + most + ")", TrackEdgesTest::highHeap,
                    x -> x.scrape(39, 1, most), BAD);
        }
        for (int most : FAR) {
            refused("scrape(0, 0, " + most + ")", x -> x.scrape(0, 0, most), BAD);
        }
    }

    /** 62 units on the middle of the last cell: of 3 that fall, 1 slides; see SecondEdgesTest. */
    private static BallastTrain highHeap() {
        BallastTrain train = Trains.standingAt(39, 200);
        train.set(0, 20);
        train.door(0, 1, 3);
        train.pass(28);
        CHECKS.due("the high heap", train.height(39, 1), 62);
        return train;
    }

    /** P13: "Returns how many units were taken away": as many as lie there, if there are not more. */
    private static void atMostWhatLiesThere() {
        for (int height = 0; height <= 5; height++) {
            for (int most = 1; most <= 6; most++) {
                BallastTrain train = Trains.withHeights(2, 0, height);
                int before = train.count(11);
                int want = Math.min(height, most);
                CHECKS.due("scrape of " + most + " from " + height, train.scrape(1, 2, most), want);
                CHECKS.due("height", train.height(1, 2), height - want);
                CHECKS.due("taken away", train.count(11) - before, want);
                CHECKS.due("scrape of the rest", train.scrape(1, 2, 60), height - want);
                CHECKS.due("scrape of nothing", train.scrape(1, 2, 60), 0);
            }
        }
        BallastTrain train = highHeap();
        CHECKS.due("60 of 62", train.scrape(39, 1, 60), 60);
        CHECKS.due("the last 2", train.scrape(39, 1, 60), 2);
    }

    /** "also if nothing becomes different". */
    private static void scrapingNothingIsAChange() {
        BallastTrain train = new BallastTrain();
        CHECKS.due("scrape(39, 2, 60)", train.scrape(39, 2, 60), 0);
        CHECKS.due("states", train.count(12), 1);
        CHECKS.due("taken away", train.count(11), 0);
        CHECKS.due("undo()", train.undo(), 0);
        CHECKS.same("behind undo()", train, new BallastTrain());
    }

    /** P23: "11 for those that were taken away by setTrain() and scrape()", and not lost. */
    private static void whatIsScrapedIsTakenAway() {
        BallastTrain train = threeEverywhere();
        CHECKS.due("scrape(0, 0, 1)", train.scrape(0, 0, 1), 1);
        CHECKS.due("scrape(39, 2, 3)", train.scrape(39, 2, 3), 3);
        CHECKS.due("on the track", train.count(9), 356);
        CHECKS.due("taken away", train.count(11), 4);
        CHECKS.due("lost", train.count(10), 0);
        train.undo();
        CHECKS.due("taken away behind undo()", train.count(11), 1);
        CHECKS.due("on the track behind undo()", train.count(9), 359);
    }

    /** P17: "cell: 0 to 39". */
    private static void heightNamesACell() {
        BallastTrain train = threeEverywhere();
        for (int cell = 0; cell < CELLS; cell++) {
            for (int strip = 0; strip < 3; strip++) {
                CHECKS.due("height(" + cell + ", " + strip + ")", train.height(cell, strip), 3);
            }
        }
        for (int strip = 0; strip < 3; strip++) {
            int there = strip;
            refused("height(-1, " + strip + ")", x -> x.height(-1, there), BAD);
            refused("height(40, " + strip + ")", x -> x.height(40, there), BAD);
        }
        for (int cell : FAR) {
            refused("height(" + cell + ", 0)", x -> x.height(cell, 0), BAD);
        }
        CHECKS.changesNothing("height(0, 0)", BallastTrain::new, x -> x.height(0, 0), 0);
    }

    /** P17: "strip: 0 to 2". */
    private static void heightNamesAStrip() {
        for (int strip = 0; strip < 3; strip++) {
            BallastTrain train = Trains.withHeights(strip, 7);
            for (int other = 0; other < 3; other++) {
                CHECKS.due("height(0, " + other + ")", train.height(0, other), other == strip ? 7 : 0);
            }
        }
        for (int cell : new int[] {0, 1, 39}) {
            refused("height(" + cell + ", -1)", x -> x.height(cell, -1), BAD);
            refused("height(" + cell + ", 3)", x -> x.height(cell, 3), BAD);
        }
        for (int strip : FAR) {
            refused("height(0, " + strip + ")", x -> x.height(0, strip), BAD);
        }
    }

    /** P18: "strip: 0 to 2". */
    private static void profileNamesAStrip() {
        for (int strip = 0; strip < 3; strip++) {
            BallastTrain train = Trains.withHeights(strip, 9);
            for (int other = 0; other < 3; other++) {
                CHECKS.due("profile(" + other + ", 0)", train.profile(other, 0), other == strip ? 9 : 0);
                CHECKS.due("profile(" + other + ", 3)", train.profile(other, 3), other == strip ? 1 : 0);
            }
        }
        for (int what = 0; what <= 5; what++) {
            int number = what;
            refused("profile(-1, " + what + ")", x -> x.profile(-1, number), BAD);
            refused("profile(3, " + what + ")", x -> x.profile(3, number), BAD);
        }
        for (int strip : FAR) {
            refused("profile(" + strip + ", 0)", x -> x.profile(strip, 0), BAD);
        }
    }

    /** P18: "what: 0 ..., 5". */
    private static void profileTells0To5() {
        for (int strip = 0; strip < 3; strip++) {
            int there = strip;
            refused("profile(" + strip + ", -1)", x -> x.profile(there, -1), BAD);
            refused("profile(" + strip + ", 6)", x -> x.profile(there, 6), BAD);
            for (int what : FAR) {
                refused("profile(" + strip + ", " + what + ")", x -> x.profile(there, what), BAD);
            }
            for (int what = 0; what <= 5; what++) {
                int number = what;
                CHECKS.changesNothing("profile(" + strip + ", " + what + ")", BallastTrain::new,
                        x -> x.profile(there, number), 0);
            }
        }
    }

    /** P18: "0 for the sum of its heights", from nothing to the first and the last cell. */
    private static void sumOfHeights() {
        CHECKS.due("sum of nothing", new BallastTrain().profile(1, 0), 0);
        CHECKS.due("sum of all cells", threeEverywhere().profile(1, 0), 120);
        for (int cell : new int[] {0, 1, 38, 39}) {
            BallastTrain train = Trains.standingAt(cell, 3);
            train.door(0, 2, 3);
            train.pass(1);
            CHECKS.due("sum of the cell " + cell, train.profile(2, 0), 3);
        }
    }

    /** P18: "1 for the greatest one, 2 for the first cell with it". */
    private static void greatestHeightAndFirstCellWithIt() {
        greatest(new BallastTrain(), 0, 0);
        greatest(threeEverywhere(), 3, 0);
        greatest(Trains.withHeights(1, 5), 5, 0);
        greatest(Trains.withHeights(1, 5, 5), 5, 0);
        greatest(Trains.withHeights(1, 4, 5, 5), 5, 1);
        greatest(Trains.withHeights(1, 4, 5, 6, 6, 5), 6, 2);
        greatest(Trains.withHeights(1, 6, 5, 6), 6, 0);
        for (int cell : new int[] {38, 39}) {
            BallastTrain train = Trains.standingAt(cell, 3);
            train.door(0, 1, 1);
            train.pass(1);
            greatest(train, 1, cell);
        }
        BallastTrain scraped = threeEverywhere();
        scraped.scrape(0, 1, 1);
        greatest(scraped, 3, 1);
        greatest(highHeap(), 62, 39);
    }

    private static void greatest(BallastTrain train, int height, int cell) {
        CHECKS.due("profile(1, 1)", train.profile(1, 1), height);
        CHECKS.due("profile(1, 2)", train.profile(1, 2), cell);
    }

    /** P18: "3 for the number of cells whose height is at least the aim". */
    private static void cellsWhoseHeightIsAtLeastTheAim() {
        BallastTrain train = Trains.withHeights(1, 9, 8, 7, 0, 8);
        int[] aims = {0, 1, 7, 8, 9, 10, 60};
        int[] cells = {40, 4, 4, 3, 1, 0, 0};
        for (int i = 0; i < aims.length; i++) {
            train.set(4, aims[i]);
            CHECKS.due("profile(1, 3) with the aim " + aims[i], train.profile(1, 3), cells[i]);
        }
        BallastTrain all = threeEverywhere();
        for (int strip = 0; strip < 3; strip++) {
            for (int aim = 2; aim <= 4; aim++) {
                all.set(4, aim);
                CHECKS.due("cells of 40 with the aim " + aim, all.profile(strip, 3), aim <= 3 ? 40 : 0);
                CHECKS.due("row of 40 with the aim " + aim, all.profile(strip, 4), aim <= 3 ? 40 : 0);
            }
        }
        BallastTrain high = highHeap();
        high.set(4, 60);
        CHECKS.due("a cell with the greatest aim", high.profile(1, 3), 1);
        high.scrape(39, 1, 2);
        CHECKS.due("a cell of 60", high.profile(1, 3), 1);
        high.scrape(39, 1, 1);
        CHECKS.due("a cell of 59", high.profile(1, 3), 0);
    }

    /** P18: "4 for the length of the longest row of such cells": none, one, the first row, the last, all. */
    private static void longestRowOfSuchCells() {
        row(0, new int[] {7, 7, 7});
        row(1, new int[] {8});
        row(1, new int[] {8, 7, 9, 7, 8});
        row(2, new int[] {8, 8, 7, 9});
        row(2, new int[] {8, 7, 8, 9, 7});
        row(3, new int[] {8, 7, 8, 8, 8});
        row(3, new int[] {0, 8, 8, 8, 0, 8, 8});
        BallastTrain train = threeEverywhere();
        train.set(4, 3);
        train.scrape(0, 1, 1);
        CHECKS.due("all but the first cell", train.profile(1, 4), 39);
        train.scrape(39, 1, 1);
        CHECKS.due("all but the first and the last cell", train.profile(1, 4), 38);
        train.scrape(20, 1, 1);
        CHECKS.due("the first row is longer", train.profile(1, 4), 19);
        train.scrape(10, 1, 1);
        CHECKS.due("the last row is longer", train.profile(1, 4), 18);
        train.set(4, 0);
        CHECKS.due("the aim 0", train.profile(1, 4), 40);
    }

    private static void row(int want, int[] heights) {
        CHECKS.due("longest row", Trains.withHeights(0, heights).profile(0, 4), want);
    }

    /** P18: "5 for the greatest difference of neighboring cells", whichever is higher, first or last. */
    private static void greatestDifferenceOfNeighbours() {
        CHECKS.due("of an empty strip", new BallastTrain().profile(0, 5), 0);
        CHECKS.due("of an even strip", threeEverywhere().profile(0, 5), 0);
        CHECKS.due("down", Trains.withHeights(0, 9, 2, 2, 2).profile(0, 5), 7);
        CHECKS.due("up", Trains.withHeights(0, 2, 9, 8, 7, 6, 5, 4).profile(0, 5), 7);
        CHECKS.due("not of cells that are no neighbours", Trains.withHeights(0, 1, 3, 5, 3, 1).profile(0, 5), 2);
        BallastTrain train = threeEverywhere();
        train.scrape(39, 1, 2);
        CHECKS.due("the last cell is lower", train.profile(1, 5), 2);
        train.scrape(38, 1, 3);
        CHECKS.due("the last cell but one is lower", train.profile(1, 5), 3);
        BallastTrain first = threeEverywhere();
        first.scrape(0, 1, 1);
        CHECKS.due("the first cell is lower", first.profile(1, 5), 1);
        BallastTrain last = Trains.standingAt(39, 3);
        last.door(0, 1, 3);
        last.pass(1);
        CHECKS.due("the last cell is higher", last.profile(1, 5), 3);
    }

    /** P19: "BAD if i is less than -1". */
    private static void lackingIsBadBelowMinus1() {
        refused("lacking(-2)", x -> x.lacking(-2), BAD);
        refused("lacking(-3)", x -> x.lacking(-3), BAD);
        refused("lacking(MIN_VALUE)", x -> x.lacking(Integer.MIN_VALUE), BAD);
        CHECKS.changesNothing("lacking(-1)", BallastTrain::new, x -> x.lacking(-1), 960);
        CHECKS.changesNothing("lacking(0)", BallastTrain::new, x -> x.lacking(0), 0);
    }

    /** P19: "its index among them by ascending numbers, from 0". */
    private static void lackingCellsByAscendingNumbers() {
        BallastTrain train = new BallastTrain();
        for (int i = 0; i < CELLS; i++) {
            CHECKS.due("lacking(" + i + ")", train.lacking(i), i);
        }
        BallastTrain three = threeEverywhere();
        three.set(4, 3);
        CHECKS.due("lacking(0) of none", three.lacking(0), NONE);
        int[] cells = {39, 0, 20};
        for (int cell : cells) {
            three.scrape(cell, 1, 1);
        }
        CHECKS.due("lacking(0)", three.lacking(0), 0);
        CHECKS.due("lacking(1)", three.lacking(1), 20);
        CHECKS.due("lacking(2)", three.lacking(2), 39);
        CHECKS.due("lacking(3)", three.lacking(3), NONE);
    }

    /** P19: "one of whose strips is lower than the aim": each strip alone, by one, or at the aim. */
    private static void oneOfWhoseStripsIsLowerThanTheAim() {
        for (int strip = 0; strip < 3; strip++) {
            BallastTrain train = threeEverywhere();
            train.scrape(7, strip, 1);
            train.set(4, 2);
            CHECKS.due("no strip below 2", train.lacking(0), NONE);
            CHECKS.due("no units up to 2", train.lacking(-1), 0);
            train.set(4, 3);
            CHECKS.due("a strip below 3", train.lacking(0), 7);
            CHECKS.due("the only one", train.lacking(1), NONE);
            CHECKS.due("a unit up to 3", train.lacking(-1), 1);
            train.set(4, 4);
            CHECKS.due("all strips below 4", train.lacking(39), 39);
            CHECKS.due("units up to 4", train.lacking(-1), 121);
        }
    }

    /** P19: "NONE if there are not so many". */
    private static void noneIfThereAreNotSoMany() {
        for (int i : new int[] {40, 41, 120, 65536, Integer.MAX_VALUE}) {
            CHECKS.changesNothing("lacking(" + i + ")", Trains::standing, x -> x.lacking(i), NONE);
            CHECKS.changesNothing("lacking(" + i + ")", BallastTrain::new, x -> x.lacking(i), NONE);
        }
        BallastTrain train = new BallastTrain();
        train.set(4, 0);
        CHECKS.due("lacking(0) with the aim 0", train.lacking(0), NONE);
        CHECKS.due("lacking(MAX_VALUE) with the aim 0", train.lacking(Integer.MAX_VALUE), NONE);
        CHECKS.due("lacking(-2) with the aim 0", train.lacking(-2), BAD);
    }

    /** P19: "-1 for the units that are lacking on all strips of the track up to the aim". */
    private static void unitsThatAreLackingUpToTheAim() {
        BallastTrain train = new BallastTrain();
        for (int aim : new int[] {0, 1, 8, 59, 60}) {
            train.set(4, aim);
            CHECKS.due("units with the aim " + aim, train.lacking(-1), 120 * aim);
        }
        BallastTrain heaps = Trains.withHeights(0, 7, 8, 9, 20);
        CHECKS.due("what is above the aim does not count", heaps.lacking(-1), 960 - 7 - 8 - 8 - 8);
        heaps.set(4, 20);
        CHECKS.due("units with the aim 20", heaps.lacking(-1), 2400 - 44);
    }
}
