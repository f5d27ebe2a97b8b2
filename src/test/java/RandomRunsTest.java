import java.util.Random;

/** Runs of random calls, the same in each run of the test, answered by BallastTrain and by PlainTrain. */
public final class RandomRunsTest {
    private static final int RUNS = 5000;
    // An object is used for at most 512 calls: one more text and the last questions need fewer than 130.
    private static final int CALLS = 512 - 130;
    private static final String SIGNS = "@ocvlmr;0123456789 @ocvlmr;0123456789 x";
    private static final int[] ODD = {-2, -1, 61, 128, 200, 201, Integer.MAX_VALUE, Integer.MIN_VALUE};

    private static final Checks CHECKS = new Checks();

    private final Random random;
    private final BallastTrain train = new BallastTrain();
    private final PlainTrain plain = new PlainTrain();
    private final int run;
    private int calls = 0;

    private RandomRunsTest(int run) {
        this.run = run;
        this.random = new Random(run);
    }

    public static void main(String[] args) {
        for (int run = 0; run < RUNS; run++) {
            new RandomRunsTest(run).go();
        }
        CHECKS.end();
    }

    private void go() {
        while (calls < CALLS) {
            change();
            ask();
        }
        for (int what = 0; what < 19; what++) {
            due("count(" + what + ")", train.count(what), plain.count(what));
        }
        due("digest()", train.digest(), plain.digest());
        CHECKS.due("run " + run + " has at most 512 calls", calls <= 512 ? 1 : 0, 1);
    }

    private void due(String call, long got, long want) {
        calls++;
        CHECKS.due("run " + run + ": " + call, got, want);
    }

    /** Mostly in the range, sometimes just beside it, sometimes far from it. */
    private int number(int least, int most) {
        int dice = random.nextInt(60);
        if (dice == 0) {
            return ODD[random.nextInt(ODD.length)];
        }
        return dice == 1 ? most + 1 : dice == 2 ? least - 1 : least + random.nextInt(most - least + 1);
    }

    private void change() {
        int a = 0;
        int b = 0;
        int c = 0;
        switch (random.nextInt(14)) {
            case 0 -> {
                a = number(0, 4);
                b = number(0, random.nextInt(3) == 0 ? 200 : 12);
                due("set(" + a + ", " + b + ")", train.set(a, b), plain.set(a, b));
            }
            case 1 -> {
                if (random.nextInt(4) == 0) {
                    a = number(1, 6);
                    due("setTrain(" + a + ")", train.setTrain(a), plain.setTrain(a));
                }
            }
            case 2, 3 -> {
                a = number(0, random.nextInt(2) == 0 ? 5 : 1);
                b = number(1, random.nextInt(2) == 0 ? 200 : 60);
                due("load(" + a + ", " + b + ")", train.load(a, b), plain.load(a, b));
            }
            case 4, 5 -> {
                a = number(0, random.nextInt(2) == 0 ? 5 : 1);
                b = number(0, 2);
                c = number(0, 3);
                due("door(" + a + ", " + b + ", " + c + ")", train.door(a, b, c), plain.door(a, b, c));
            }
            case 6 -> {
                a = number(0, random.nextInt(3) == 0 ? 3 : 1);
                due("wish(" + a + ")", train.wish(a), plain.wish(a));
            }
            case 7, 8 -> {
                write();
                due("order()", train.order(), plain.order());
            }
            case 9 -> {
                a = number(0, 9);
                due("cancel(" + a + ")", train.cancel(a), plain.cancel(a));
            }
            case 10, 11 -> {
                a = number(1, random.nextInt(12) == 0 ? 200 : 8);
                due("pass(" + a + ")", train.pass(a), plain.pass(a));
            }
            case 12 -> {
                a = number(0, 39);
                b = number(0, 2);
                c = number(1, 60);
                due("scrape(" + a + ", " + b + ", " + c + ")", train.scrape(a, b, c), plain.scrape(a, b, c));
            }
            default -> due("undo()", train.undo(), plain.undo());
        }
    }

    private void write() {
        if (random.nextInt(3) > 0) {
            due("clearText()", train.clearText(), plain.clearText());
        }
        StringBuilder text = new StringBuilder();
        for (int orders = random.nextInt(4); orders > 0; orders--) {
            text.append(oneOrder());
        }
        if (random.nextInt(4) == 0 && text.length() > 0) {
            text.setCharAt(random.nextInt(text.length()), SIGNS.charAt(random.nextInt(SIGNS.length())));
        }
        if (random.nextInt(6) == 0 && text.length() > 0) {
            text.deleteCharAt(random.nextInt(text.length()));
        }
        if (random.nextInt(6) == 0) {
            text.insert(random.nextInt(text.length() + 1), SIGNS.charAt(random.nextInt(SIGNS.length())));
        }
        for (int i = 0; i < text.length(); i++) {
            due("type(" + text.charAt(i) + ")", train.type(text.charAt(i)), plain.type(text.charAt(i)));
        }
        int odd = number(0, 127);
        if (odd < 0 || odd > 127) {
            due("type(" + odd + ")", train.type(odd), plain.type(odd));
        }
        due("fault() of '" + plain.text() + "'", train.fault(), plain.fault());
    }

    private String oneOrder() {
        int cell = random.nextInt(random.nextInt(10) == 0 ? 48 : 40);
        String number = cell < 10 && random.nextBoolean() ? "0" + cell : "" + cell;
        String wagon = blank() + random.nextInt(random.nextInt(2) == 0 ? 6 : 2);
        String door = blank() + "lmr".charAt(random.nextInt(3));
        String action = switch (random.nextInt(3)) {
            case 0 -> "o" + wagon + door + blank() + (1 + random.nextInt(3));
            case 1 -> "c" + wagon + door;
            default -> "v" + blank() + random.nextInt(4);
        };
        return blank() + "@" + blank() + number + blank() + action + blank() + ";" + blank();
    }

    private String blank() {
        return random.nextInt(12) == 0 ? " " : "";
    }

    private void ask() {
        int a = 0;
        int b = 0;
        int c = 0;
        switch (random.nextInt(9)) {
            case 0 -> {
                a = number(0, 5);
                b = number(0, 4);
                due("wagon(" + a + ", " + b + ")", train.wagon(a, b), plain.wagon(a, b));
            }
            case 1 -> {
                a = number(0, 5);
                b = number(0, 2);
                c = number(0, 1);
                due("doorOf(" + a + ", " + b + ", " + c + ")", train.doorOf(a, b, c), plain.doorOf(a, b, c));
            }
            case 2 -> {
                a = number(0, 39);
                b = number(0, 2);
                due("height(" + a + ", " + b + ")", train.height(a, b), plain.height(a, b));
            }
            case 3 -> {
                a = number(0, 2);
                b = number(0, 5);
                due("profile(" + a + ", " + b + ")", train.profile(a, b), plain.profile(a, b));
            }
            case 4 -> {
                a = number(-1, 40);
                due("lacking(" + a + ")", train.lacking(a), plain.lacking(a));
            }
            case 5 -> {
                a = number(0, 9);
                b = number(0, 4);
                due("ordered(" + a + ", " + b + ")", train.ordered(a, b), plain.ordered(a, b));
            }
            case 6 -> {
                a = number(1, random.nextInt(5) == 0 ? 200 : 20);
                b = number(0, 6);
                due("foretell(" + a + ", " + b + ")", train.foretell(a, b), plain.foretell(a, b));
            }
            case 7 -> due("emptyAfter()", train.emptyAfter(), plain.emptyAfter());
            default -> {
                a = number(0, 18);
                due("count(" + a + ")", train.count(a), plain.count(a));
            }
        }
    }
}
