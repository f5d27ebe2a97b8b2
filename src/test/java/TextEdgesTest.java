/** The edges that the promises 2, 3 and 4 name, with what "Text" says of them; a test for each sentence. */
public final class TextEdgesTest {
    private static final int NONE = BallastTrain.NONE;
    private static final int MOST_BYTES = 60;
    private static final String DIGITS = "0123456789";
    private static final Checks CHECKS = new Checks();

    public static void main(String[] args) {
        bytesAreFrom0To127();
        aByteOutOfRangeIsBad();
        theTextHasAtMost60Bytes();
        badComesBeforeFull();
        clearTextReturnsTheLengthThatItHad();
        aClearedTextTakes60BytesAgain();
        noFaultIsNone();
        aFaultIsAskedAgainAndAgain();
        theFirstByteThatCannotStand();
        cellsAreAtMost39();
        aCellAbove39WhateverFollows();
        aCellAbove39WhateverStandsBefore();
        zerosInFrontCanStand();
        aThirdDigitCannotStand();
        wagonsAreFrom0To5();
        levelsAreFrom1To3();
        speedsAreFrom0To3();
        blanksBeforeAndAfterAll();
        noBlankWithinANumber();
        onlyTheByte32IsABlank();
        aTextThatEndsTooEarly();
        aTextThatEndsBeforeTheClearedOne();
        faultsOfAFullText();
        CHECKS.end();
    }

    private static void fault(String text, int want) {
        CHECKS.due("fault() of '" + text + "'", Trains.typed(text).fault(), want);
    }

    /** P2: "the byte, 0 to 127". */
    private static void bytesAreFrom0To127() {
        for (int letter = 0; letter <= 127; letter++) {
            BallastTrain train = new BallastTrain();
            CHECKS.due("type(" + letter + ")", train.type(letter), 1);
            CHECKS.due("length", train.count(13), 1);
            CHECKS.due("digest()", train.digest(), NumbersTest.digestOf(train, "" + (char) letter));
        }
    }

    /** P2: "Returns ... BAD", beside the range and where a byte would be cut out of a larger number. */
    private static void aByteOutOfRangeIsBad() {
        int[] wrong = {-1, 128, -128, 255, 256, 256 + '@', 65536 + '@', Integer.MAX_VALUE, Integer.MIN_VALUE};
        for (int letter : wrong) {
            CHECKS.changesNothing("type(" + letter + ")", Trains::standing, x -> x.type(letter), BallastTrain.BAD);
        }
    }

    private static BallastTrain withBytes(int bytes) {
        return Trains.typed("x".repeat(bytes));
    }

    /** P2: "FULL if the text has 60 bytes"; "Text": "a text of at most 60 bytes". */
    private static void theTextHasAtMost60Bytes() {
        CHECKS.due("type with 58 bytes", withBytes(58).type('y'), 59);
        CHECKS.due("type with 59 bytes", withBytes(59).type('y'), 60);
        CHECKS.changesNothing("type with 60 bytes", () -> withBytes(60), x -> x.type('y'), BallastTrain.FULL);
        CHECKS.changesNothing("type with 60 bytes on a busy train",
                () -> Trains.typed(Trains.standing(), " ".repeat(60)), x -> x.type('@'), BallastTrain.FULL);
        CHECKS.changesNothing("type(0) with 60 bytes", () -> withBytes(60), x -> x.type(0), BallastTrain.FULL);
        CHECKS.changesNothing("type(127) with 60 bytes", () -> withBytes(60), x -> x.type(127), BallastTrain.FULL);
    }

    /** "Errors": "If several errors apply, the one that comes first in this list is returned". */
    private static void badComesBeforeFull() {
        CHECKS.changesNothing("type(-1) with 60 bytes", () -> withBytes(60), x -> x.type(-1), BallastTrain.BAD);
        CHECKS.changesNothing("type(128) with 60 bytes", () -> withBytes(60), x -> x.type(128), BallastTrain.BAD);
    }

    /** P3: "Returns the length that it had", from the empty to the full text. */
    private static void clearTextReturnsTheLengthThatItHad() {
        for (int bytes = 0; bytes <= MOST_BYTES; bytes++) {
            BallastTrain train = withBytes(bytes);
            CHECKS.due("clearText() with " + bytes + " bytes", train.clearText(), bytes);
            CHECKS.due("clearText() again", train.clearText(), 0);
            CHECKS.same("behind clearText()", train, new BallastTrain());
        }
        BallastTrain train = withBytes(60);
        train.type('x');
        CHECKS.due("clearText() behind a refused byte", train.clearText(), 60);
    }

    /** P3: "Empties the text", and P2 then counts from 1 again. */
    private static void aClearedTextTakes60BytesAgain() {
        BallastTrain train = withBytes(60);
        train.clearText();
        for (int length = 1; length <= MOST_BYTES; length++) {
            CHECKS.due("type behind clearText()", train.type(' '), length);
        }
        CHECKS.due("type into the full text", train.type(' '), BallastTrain.FULL);
        CHECKS.due("nothing of the old text is read", train.fault(), NONE);
    }

    /** P4: "NONE if there is no fault", also with no orders or as many as there is room for. */
    private static void noFaultIsNone() {
        fault("", NONE);
        fault(" ", NONE);
        fault(" ".repeat(60), NONE);
        fault("@0v0;", NONE);
        fault("@0c0l;", NONE);
        fault("@0o0l1;", NONE);
        for (int orders = 1; orders <= 12; orders++) {
            fault("@9v1;".repeat(orders), NONE);
        }
    }

    /** P4: the fault is that of the text as it is now, and asking changes nothing. */
    private static void aFaultIsAskedAgainAndAgain() {
        BallastTrain train = new BallastTrain();
        String text = "@1v1;";
        CHECKS.due("fault() of the empty text", train.fault(), NONE);
        for (int i = 0; i < text.length(); i++) {
            train.type(text.charAt(i));
            int want = i + 1 < text.length() ? i + 1 : NONE;
            CHECKS.due("fault() as the text grows", train.fault(), want);
            CHECKS.due("fault() again", train.fault(), want);
        }
        train.type('x');
        CHECKS.due("fault() with a wrong byte", train.fault(), 5);
        train.type('@');
        CHECKS.due("fault() with a byte behind it", train.fault(), 5);
        train.clearText();
        CHECKS.due("fault() of the cleared text", train.fault(), NONE);
        CHECKS.changesNothing("fault()", Trains::standing, x -> x.fault(), NONE);
        CHECKS.changesNothing("fault() of a wrong text", () -> Trains.typed(Trains.standing(), "@40"),
                x -> x.fault(), 1);
    }

    /** P4: "the index, from 0, of the first byte that cannot stand at its place", for each byte at each place. */
    private static void theFirstByteThatCannotStand() {
        everyByteBehind("", "@", " ");
        everyByteBehind(" ", "@", " ");
        everyByteBehind("@", DIGITS + " ", "");
        everyByteBehind("@ ", DIGITS + " ", "");
        everyByteBehind("@0", DIGITS + "ocv ", "");
        everyByteBehind("@3", DIGITS + "ocv ", "");
        everyByteBehind("@9 ", "ocv ", "");
        everyByteBehind("@12", "ocv ", "");
        everyByteBehind("@12 ", "ocv ", "");
        for (String action : new String[] {"@1o", "@1o ", "@1c", "@1c "}) {
            everyByteBehind(action, "012345 ", "");
            everyByteBehind(action + "0", "lmr ", "");
            everyByteBehind(action + "5 ", "lmr ", "");
        }
        for (String door : new String[] {"l", "m", "r", "m "}) {
            everyByteBehind("@1o0" + door, "123 ", "");
            everyByteBehind("@1c0" + door, " ", ";");
        }
        everyByteBehind("@1v", "0123 ", "");
        everyByteBehind("@1v ", "0123 ", "");
        for (String order : new String[] {"@1o0l1", "@1o0l3 ", "@1v0", "@1v3 "}) {
            everyByteBehind(order, " ", ";");
        }
        for (String order : new String[] {"@1o0l1;", "@1c5r;", "@1v3;", "@1v3; "}) {
            everyByteBehind(order, "@", " ");
        }
    }

    /** Behind these bytes, some may stand with more to come, some may be the last, and no other may stand. */
    private static void everyByteBehind(String before, String goesOn, String mayEnd) {
        for (int letter = 0; letter <= 127; letter++) {
            BallastTrain train = Trains.typed(before);
            train.type(letter);
            int at = before.length();
            int want = mayEnd.indexOf(letter) >= 0 ? NONE : goesOn.indexOf(letter) >= 0 ? at + 1 : at;
            String name = "fault() of '" + before + "' and the byte " + letter;
            CHECKS.due(name, train.fault(), want);
            train.type('x');
            CHECKS.due(name + " and an x", train.fault(), want == at ? at : at + 1);
        }
    }

    private static String twoDigits(int cell) {
        return "" + DIGITS.charAt(cell / 10) + DIGITS.charAt(cell % 10);
    }

    /** "A cell is a number of one or two digits, at most 39". */
    private static void cellsAreAtMost39() {
        for (int cell = 0; cell <= 99; cell++) {
            BallastTrain train = Trains.typed("@" + twoDigits(cell) + "v1;");
            CHECKS.due("fault() with the cell " + cell, train.fault(), cell <= 39 ? NONE : 1);
            CHECKS.due("order() with the cell " + cell, train.order(), cell <= 39 ? 1 : BallastTrain.STATE);
            CHECKS.due("its cell", train.ordered(0, 0), cell <= 39 ? cell : NONE);
        }
        for (int cell = 0; cell <= 9; cell++) {
            BallastTrain train = Trains.ordered(new BallastTrain(), "@" + cell + "c0l;");
            CHECKS.due("the cell of one digit", train.ordered(0, 0), cell);
        }
    }

    /** "for a cell above 39 ... the first of them, whatever follows, also if the text ends there". */
    private static void aCellAbove39WhateverFollows() {
        String[] tails = {"", " ", "v1;", "o", "@", "x", "0", "9", "\0", " v1;", "v9", "v1;@99"};
        for (String tail : tails) {
            fault("@39" + tail, tail.isEmpty() ? 3 : faultBehindACell(tail));
            for (int cell = 40; cell <= 99; cell++) {
                fault("@" + cell + tail, 1);
            }
        }
    }

    private static int faultBehindACell(String tail) {
        switch (tail) {
            case "v1;": return NONE;
            case " v1;": return NONE;
            case " ": return 4;
            case "o": return 4;
            case "v9": return 4;
            case "v1;@99": return 7;
            default: return 3;
        }
    }

    /** The same sentence: "the first of them" is told by its index, from 0. */
    private static void aCellAbove39WhateverStandsBefore() {
        fault("@ 40", 2);
        fault(" @40", 2);
        fault("  @   40v1;", 6);
        fault("@39v1;@40v1;", 7);
        fault("@39v1; @ 40", 9);
        fault("@1v1;".repeat(11) + "@1;", 57);
        fault("@1v1;".repeat(11) + "@40v1", 56);
        fault(" ".repeat(57) + "@40", 58);
        fault("@40v1;@x", 1);
        fault("x@40", 0);
    }

    /** "zeros in front can stand". */
    private static void zerosInFrontCanStand() {
        for (int cell = 0; cell <= 9; cell++) {
            BallastTrain train = Trains.ordered(new BallastTrain(), "@0" + cell + "v1;");
            CHECKS.due("the cell 0" + cell, train.ordered(0, 0), cell);
        }
    }

    /** "a third digit cannot": also behind zeros, and with a cell that would be at most 39 or above. */
    private static void aThirdDigitCannotStand() {
        for (int digit = 0; digit <= 9; digit++) {
            fault("@00" + digit + "v1;", 3);
            fault("@03" + digit + "v1;", 3);
            fault("@10" + digit, 3);
            fault("@39" + digit + "v1;", 3);
            fault("@40" + digit + "v1;", 1);
        }
    }

    /** "a wagon is a digit from 0 to 5". */
    private static void wagonsAreFrom0To5() {
        for (int wagon = 0; wagon <= 9; wagon++) {
            int want = wagon <= 5 ? NONE : 3;
            fault("@1o" + wagon + "l1;", want);
            fault("@1c" + wagon + "r;", want);
            BallastTrain train = Trains.ordered(new BallastTrain(), "@1c" + wagon + "r;");
            CHECKS.due("the wagon", train.ordered(0, 2), wagon <= 5 ? wagon : NONE);
        }
        fault("@1o00l1;", 4);
        fault("@1c50l;", 4);
    }

    /** "a level a digit from 1 to 3". */
    private static void levelsAreFrom1To3() {
        for (int level = 0; level <= 9; level++) {
            fault("@1o0m" + level + ";", level >= 1 && level <= 3 ? NONE : 5);
        }
        fault("@1o0m01;", 5);
        fault("@1o0m11;", 6);
    }

    /** "a speed a digit from 0 to 3". */
    private static void speedsAreFrom0To3() {
        for (int speed = 0; speed <= 9; speed++) {
            fault("@1v" + speed + ";", speed <= 3 ? NONE : 3);
        }
        fault("@1v00;", 4);
        fault("@1v33;", 4);
    }

    /** "Blanks (byte 32) can stand before and after signs, letters and numbers". */
    private static void blanksBeforeAndAfterAll() {
        String[][] orders = {
            {"@", "12", "o", "3", "m", "2", ";"}, {"@", "7", "c", "0", "r", ";"}, {"@", "39", "v", "0", ";"}};
        for (String[] parts : orders) {
            for (int gap = 0; gap <= parts.length; gap++) {
                for (int blanks = 1; blanks <= 3; blanks++) {
                    fault(joined(parts, gap, " ".repeat(blanks)), NONE);
                }
            }
            fault(" " + String.join(" ", parts) + " " + String.join(" ", parts) + " ", NONE);
        }
    }

    private static String joined(String[] parts, int gap, String filler) {
        StringBuilder text = new StringBuilder();
        for (int i = 0; i < parts.length; i++) {
            text.append(i == gap ? filler : "").append(parts[i]);
        }
        return text.append(gap == parts.length ? filler : "").toString();
    }

    /** Blanks stand before and after numbers, so a blank ends the cell: the digit behind it cannot stand. */
    private static void noBlankWithinANumber() {
        fault("@1 2v1;", 3);
        fault("@0 0v1;", 3);
        fault("@3 9v1;", 3);
        fault("@4 0v1;", 3);
        fault("@9  9v1;", 4);
    }

    /** "(byte 32)": its neighbours and other bytes that look like it cannot stand instead. */
    private static void onlyTheByte32IsABlank() {
        String[] parts = {"@", "12", "o", "3", "m", "2", ";"};
        char[] others = {0, '\t', '\n', '\r', 31, 33, 127};
        for (char other : others) {
            for (int gap = 0; gap <= parts.length; gap++) {
                String text = joined(parts, gap, "" + other);
                fault(text, text.indexOf(other));
            }
        }
    }

    /** P4: "or the length of the text if it ends too early". */
    private static void aTextThatEndsTooEarly() {
        for (String order : new String[] {"@12o3m2;", "@7c0r;", "@39v0;", " @ 1 o 0 l 3 ;"}) {
            for (int length = order.indexOf('@') + 1; length < order.length(); length++) {
                String start = order.substring(0, length);
                fault(start, length);
                fault(start + "  ", length + 2);
                fault("@1v1;" + start, length + 5);
            }
            fault(order, NONE);
        }
    }

    /** The same for a text that is shorter than the one before: nothing stands at its length. */
    private static void aTextThatEndsBeforeTheClearedOne() {
        for (String order : new String[] {"@12o3m2;", "@7c0r;", "@39v0;"}) {
            for (int length = 0; length <= order.length(); length++) {
                BallastTrain train = Trains.typed(order + order);
                Trains.typed(train, order.substring(0, length));
                boolean whole = length == 0 || length == order.length();
                String name = "fault() with " + length + " bytes of '" + order + "'";
                CHECKS.due(name, train.fault(), whole ? NONE : length);
                int orders = length == 0 ? 0 : 1;
                CHECKS.due("order()", train.order(), whole ? orders : BallastTrain.STATE);
                CHECKS.due("orders", train.count(5), whole ? orders : 0);
            }
        }
    }

    /** The same at the greatest length: the last byte is the fault, or 60 is, or there is none. */
    private static void faultsOfAFullText() {
        fault("@9v1;".repeat(12), NONE);
        fault("@9v1;".repeat(11) + "@9v1x", 59);
        fault("@9v1;".repeat(11) + "@9v1 ", 60);
        fault("@9v1;".repeat(11) + "@9v12", 59);
        fault("@9v1;".repeat(11) + "@39v1", 60);
        fault(" ".repeat(59) + "@", 60);
        fault(" ".repeat(59) + ";", 59);
        fault("@" + " ".repeat(59), 60);
        fault("@9" + " ".repeat(55) + "v1;", NONE);
        BallastTrain train = Trains.typed("@9v1;".repeat(11) + "@9v1 ");
        train.type(';');
        CHECKS.due("a refused byte mends no fault", train.fault(), 60);
    }
}
