/** Promises 2, 3 and 4: type, clearText, fault. */
public final class TextTest {
    private static final Checks CHECKS = new Checks();

    public static void main(String[] args) {
        typing();
        clearing();
        textsWithoutFault();
        signsAndLetters();
        numbers();
        blanks();
        textsThatEndTooEarly();
        CHECKS.end();
    }

    private static void typing() {
        BallastTrain train = new BallastTrain();
        CHECKS.due("type(-1)", train.type(-1), BallastTrain.BAD);
        CHECKS.due("type(128)", train.type(128), BallastTrain.BAD);
        CHECKS.due("type(MIN_VALUE)", train.type(Integer.MIN_VALUE), BallastTrain.BAD);
        CHECKS.due("length after wrong bytes", train.count(13), 0);
        for (int length = 1; length <= 60; length++) {
            CHECKS.due("type", train.type(length == 1 ? 0 : 127), length);
        }
        long before = train.digest();
        CHECKS.due("type into a full text", train.type(32), BallastTrain.FULL);
        CHECKS.due("type(128) into a full text", train.type(128), BallastTrain.BAD);
        CHECKS.unchanged("type into a full text", train, before);
        CHECKS.due("typing is no change", train.count(12), 0);
    }

    private static void clearing() {
        BallastTrain train = Trains.typed("@1v1;");
        CHECKS.due("clearText()", train.clearText(), 5);
        CHECKS.due("clearText() again", train.clearText(), 0);
        CHECKS.due("length", train.count(13), 0);
        CHECKS.due("fault of the empty text", train.fault(), BallastTrain.NONE);
        CHECKS.due("clearing is no change", train.count(12), 0);
        Trains.typed(train, "@1v1");
        CHECKS.due("what was cleared is not read", train.fault(), 4);
    }

    private static void textsWithoutFault() {
        fault("", BallastTrain.NONE);
        fault("@0v0;", BallastTrain.NONE);
        fault("@39v3;", BallastTrain.NONE);
        fault("@00v3;@07c5r;@9o0l1;", BallastTrain.NONE);
        fault("@12o5r3;@12c0m;", BallastTrain.NONE);
        fault("@0v1;@0v1;@0v1;@0v1;@0v1;@0v1;@0v1;@0v1;@0v1;@0v1;@0v1;@0v1;", BallastTrain.NONE);
    }

    private static void signsAndLetters() {
        fault("x", 0);
        fault("v1;", 0);
        fault(";", 0);
        fault("@@", 1);
        fault("@v1;", 1);
        fault("@1V1;", 2);
        fault("@1x", 2);
        fault("@1;", 2);
        fault("@1oo", 3);
        fault("@1o1x", 4);
        fault("@1o1L1;", 4);
        fault("@1o1l;", 5);
        fault("@1c1l1;", 5);
        fault("@1v1@", 4);
        fault("@1v1;;", 5);
        fault("@1v1;x", 5);
        fault("@1v1;@1v1;1", 10);
    }

    private static void numbers() {
        fault("@40v1;", 1);
        fault("@40", 1);
        fault("@99x", 1);
        fault("@400", 1);
        fault("@123v1;", 3);
        fault("@001v1;", 3);
        fault("@039", 3);
        fault(" @ 47 v1;", 3);
        fault("@1v1;@41v1;", 6);
        fault("@1v4;", 3);
        fault("@1v12;", 4);
        fault("@1o6l1;", 3);
        fault("@1o12;", 4);
        fault("@1o1l0;", 5);
        fault("@1o1l4;", 5);
        fault("@1o1l12;", 6);
        fault("@1c6", 3);
        fault("@/", 1);
        fault("@:", 1);
    }

    private static void blanks() {
        fault("   ", BallastTrain.NONE);
        fault(" ".repeat(60), BallastTrain.NONE);
        fault(" ".repeat(59) + "@", 60);
        fault(" ".repeat(59) + "x", 59);
        fault("@1v1" + " ".repeat(55) + ";", BallastTrain.NONE);
        fault("  @  12  o  3  m  2  ;  @ 3 c 1 r ; @ 4 v 2 ;  ", BallastTrain.NONE);
        fault("@1 2v1;", 3);
        fault("@4 0v1;", 3);
        fault("@1\tv1;", 2);
        fault("@1v1;\n", 5);
        fault("@1v1 2;", 5);
    }

    private static void textsThatEndTooEarly() {
        fault("@", 1);
        fault("@1", 2);
        fault("@4", 2);
        fault("@39", 3);
        fault("@39 ", 4);
        fault("@1o", 3);
        fault("@1o1", 4);
        fault("@1o1l", 5);
        fault("@1o1l1", 6);
        fault("@1c1l", 5);
        fault("@1c1l ", 6);
        fault("@1v", 3);
        fault("@1v1", 4);
        fault("@1v1;  @ ", 9);
        fault("@1v1;@1v1;@1v1;@1v1;@1v1;@1v1;@1v1;@1v1;@1v1;@1v1;@1v1;@1v1 ", 60);
    }

    private static void fault(String text, int want) {
        CHECKS.due("fault() of '" + text + "'", Trains.typed(text).fault(), want);
    }
}
