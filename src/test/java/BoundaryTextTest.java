/** The boundary cases of the promises 10 to 13: the text, its faults, and reading it. */
public final class BoundaryTextTest extends BoundaryCases {
    private static final String GOOD = "01230000;";

    private BoundaryTextTest() {
    }

    public static void main(String[] args) {
        lettersAreFrom0To127();
        textIsFull();
        wrongLetterForAFullText();
        lengthOfTheText();
        lengthThatItHad();
        textIsEmptied();
        emptyTextHasItsFaultAt0();
        textEndsTooEarly();
        textHas1To8States();
        statesAreFollowedBySemicolons();
        quartersAreFrom0To3();
        quartersAreToldOnce();
        quartersAreToldAgainInAnotherState();
        digitsForStatesAreAnyOnes();
        digitsForStatesAreDigits();
        firstByteOfANinthState();
        firstFaultOfForm();
        formComesBeforeStates();
        digitsForStatesThatThereAreNot();
        firstDigitForAStateThatThereIsNot();
        noFault();
        faultPositionChangesNothing();
        readOfATextWithAFault();
        readOfTheFewestAndTheMost();
        readSetsTheCurve();
        readOfFewerStates();
        readKeepsTheText();
        readMakesTheDivisionAnew();
        readKeepsTheRest();
        Check.end();
    }

    private static void fault(String text, long due) {
        due("faultPosition() of " + text, withText(text).faultPosition(), due);
    }

    private static String withByte(String text, int position, char letter) {
        return text.substring(0, position) + letter + text.substring(position + 1);
    }

    // promises 10 and 11

    private static void lettersAreFrom0To127() {
        sentence(10, "letter: 0 to 127");
        for (int letter : new int[] {-1, 128, 255, 256 + '0', -256 + '0', 65536 + '0', MIN, MAX}) {
            refused("append(" + letter + ")", x -> x.append(letter), BAD_VALUE);
        }
        for (int letter = 0; letter <= 127; letter++) {
            due("append(" + letter + ")", new CurveOrders().append(letter), 1);
        }
    }

    private static void textIsFull() {
        sentence(10, "FULL if it has 80 bytes");
        due("the append of byte 79", withText("0".repeat(78)).append('0'), 79);
        due("the append of byte 80", withText("0".repeat(79)).append('0'), 80);
        refusedIn(() -> withText("0".repeat(80)), "append to 80 bytes", x -> x.append('0'), FULL);
        refusedIn(BoundaryCases::crowded, "append(0)", x -> x.append(0), FULL);
        refusedIn(BoundaryCases::crowded, "append(127)", x -> x.append(127), FULL);
        CurveOrders x = withText("0".repeat(81));
        due("append once more", x.append('0'), FULL);
        due("clearText()", x.clearText(), 80);
        due("append when there is room again", x.append('0'), 1);
    }

    private static void wrongLetterForAFullText() {
        sentence(10, "Returns the length of the text; BAD_VALUE; FULL");
        refusedIn(BoundaryCases::crowded, "append(-1) to 80 bytes", x -> x.append(-1), BAD_VALUE);
        refusedIn(BoundaryCases::crowded, "append(128) to 80 bytes", x -> x.append(128), BAD_VALUE);
    }

    private static void lengthOfTheText() {
        sentence(10, "Returns the length of the text");
        CurveOrders x = new CurveOrders();
        for (int length = 1; length <= 80; length++) {
            due("append", x.append(length % 128), length);
        }
    }

    private static void lengthThatItHad() {
        sentence(11, "Returns the length that it had.");
        due("clearText() of an empty text", new CurveOrders().clearText(), 0);
        due("clearText() of one byte", withText("0").clearText(), 1);
        due("clearText() of 80 bytes", withText("0".repeat(80)).clearText(), 80);
    }

    private static void textIsEmptied() {
        sentence(11, "Empties the text.");
        CurveOrders x = withTable(3, "10320000;");
        x.clearText();
        due("clearText() again", x.clearText(), 0);
        due("faultPosition()", x.faultPosition(), 0);
        due("read()", x.read(), NOT_POSSIBLE);
        due("append('0')", x.append('0'), 1);
        due("faultPosition() without the bytes that were there", x.faultPosition(), 1);
        due("visit(0, 0) of TABLE", x.visit(0, 0), 10);
    }

    // promise 12

    private static void emptyTextHasItsFaultAt0() {
        sentence(DESCRIPTION, "so an empty text has its fault at 0");
        fault("", 0);
        CurveOrders x = withText(GOOD);
        x.clearText();
        due("faultPosition() of a cleared text", x.faultPosition(), 0);
    }

    private static void textEndsTooEarly() {
        sentence(DESCRIPTION, "or its length if it ends too early");
        String text = states(8);
        for (int length = 0; length <= 72; length++) {
            fault(text.substring(0, length), length > 0 && length % 9 == 0 ? NONE : length);
        }
    }

    private static void textHas1To8States() {
        sentence(DESCRIPTION, "It consists of 1 to 8 states");
        fault("", 0);
        fault(states(1), NONE);
        fault(states(8), NONE);
        fault(states(8) + "01230000", 72);
    }

    private static void statesAreFollowedBySemicolons() {
        sentence(DESCRIPTION, "each followed by a semicolon");
        for (char letter : new char[] {':', '<', '0', '9', ',', ' ', 0, 127}) {
            fault(withByte(GOOD, 8, letter), 8);
            fault(withByte(GOOD + GOOD, 8, letter), 8);
            fault(withByte(GOOD + GOOD, 17, letter), 17);
        }
        fault("01230000", 8);
        fault(GOOD + "01230000", 17);
        fault(GOOD + ";", 9);
        fault(";" + GOOD, 0);
    }

    private static void quartersAreFrom0To3() {
        sentence(DESCRIPTION, "four digits, the quarters in their order, which are 0 to 3");
        for (int position = 0; position < 4; position++) {
            for (char letter : new char[] {'4', '/', '9', ':', ';', ' ', 0, 3, 127, 'x'}) {
                fault(withByte(GOOD, position, letter), position);
                fault(GOOD + withByte(GOOD, position, letter), position + 9);
            }
        }
        fault("30120000;", NONE);
        fault("12300000;", NONE);
        fault("23010000;", NONE);
    }

    private static void quartersAreToldOnce() {
        sentence(DESCRIPTION, "a quarter that has been told in the same state is a fault");
        for (int position = 1; position < 4; position++) {
            for (int earlier = 0; earlier < position; earlier++) {
                char told = GOOD.charAt(earlier);
                fault(withByte(GOOD, position, told), position);
                fault(GOOD + withByte(GOOD, position, told), position + 9);
                fault(states(7) + withByte(GOOD, position, told), position + 63);
            }
        }
    }

    private static void quartersAreToldAgainInAnotherState() {
        sentence(DESCRIPTION, "each one once");
        fault("01230000;30210000;", NONE);
        fault("01233210;".repeat(4), NONE);
        fault("30210000;", NONE);
    }

    private static void digitsForStatesAreAnyOnes() {
        sentence(DESCRIPTION, "four digits (any ones, as far as the form is concerned)");
        fault("01239999", 8);
        fault("01238888x", 8);
        fault("01239", 5);
        fault("01239;", 5);
        fault("01230000;0123999", 16);
    }

    private static void digitsForStatesAreDigits() {
        sentence(DESCRIPTION, "the states for the places");
        for (int position = 4; position < 8; position++) {
            for (char letter : new char[] {'/', ':', ';', ' ', 0, 9, 127, 'x'}) {
                fault(withByte(GOOD, position, letter), position);
                fault(GOOD + withByte(GOOD, position, letter), position + 9);
            }
        }
    }

    private static void firstByteOfANinthState() {
        sentence(DESCRIPTION, "so is the first byte of a ninth state");
        for (char letter : new char[] {'0', '3', '4', ';', ' ', 0, 127}) {
            fault(states(8) + letter, 72);
        }
        fault(states(8) + "01230000", 72);
        fault(states(7) + "01230000", 71);
    }

    private static void firstFaultOfForm() {
        sentence(DESCRIPTION, "of the first byte with which the text does not follow this form");
        fault("x123x000x", 0);
        fault("0x23x000x", 1);
        fault("0123x000x", 4);
        fault("01230000xx", 8);
        fault("00110000;", 1);
        fault("0120x000;", 3);
        fault(GOOD + "0123000;;", 16);
        fault(withByte(states(8), 71, 'x') + "0", 71);
    }

    private static void formComesBeforeStates() {
        sentence(DESCRIPTION, "If the form is right, but there are digits for states that the text does not have");
        fault("01239999;0", 10);
        fault("01239999;x", 9);
        fault("01230000;01239000", 17);
        fault("01239999;".repeat(8) + "0", 72);
    }

    private static void digitsForStatesThatThereAreNot() {
        sentence(DESCRIPTION, "digits for states that the text does not have");
        for (int count = 1; count <= 8; count++) {
            String text = states(count);
            for (int state = 0; state < count; state++) {
                for (int column = 4; column < 8; column++) {
                    int position = 9 * state + column;
                    fault(withByte(text, position, (char) ('0' + count - 1)), NONE);
                    fault(withByte(text, position, (char) ('0' + count)), position);
                    fault(withByte(text, position, '9'), position);
                }
            }
        }
    }

    private static void firstDigitForAStateThatThereIsNot() {
        sentence(DESCRIPTION, "the fault is the first one of them");
        fault("01230119;", 5);
        fault("01239111;", 4);
        fault("01230000;01230192;", 15);
        fault("01230002;01239999;", 7);
        fault("01230120;01230000;", 6);
        fault("01230120;01230000;01230000;", NONE);
        fault("01237000;".repeat(7), 4);
        fault("01237000;".repeat(8), NONE);
    }

    private static void noFault() {
        sentence(12, "NONE if it has no fault");
        fault(GOOD, NONE);
        fault("32101111;02310000;", NONE);
        fault("32107777;".repeat(8), NONE);
    }

    private static void faultPositionChangesNothing() {
        sentence(12, "Returns the fault position of the text");
        CurveOrders x = withText(GOOD);
        x.append('x');
        for (int i = 0; i < 3; i++) {
            due("faultPosition() again", x.faultPosition(), 9);
        }
        due("clearText()", x.clearText(), 10);
        due("setCurve(MORTON)", x.setCurve(MORTON), MORTON);
    }

    // promise 13

    private static void readOfATextWithAFault() {
        sentence(13, "NOT_POSSIBLE if the text has a fault");
        refused("read()", x -> x.read(), NOT_POSSIBLE);
        for (String text : new String[] {"0", "01230000", "01230000:", "01230001;", "01240000;", "01200000;",
            states(8) + "0", states(7) + "01230008;"}) {
            refusedIn(() -> withText(text), "read() of " + text, x -> x.read(), NOT_POSSIBLE);
            refusedIn(() -> afterAnotherText(text), "read() of " + text + " later", x -> x.read(), NOT_POSSIBLE);
        }
    }

    /** Balanced, with TABLE already read, HILBERT set, and a new text. */
    private static CurveOrders afterAnotherText(String text) {
        CurveOrders x = busy();
        x.clearText();
        type(x, text);
        return x;
    }

    private static void readOfTheFewestAndTheMost() {
        sentence(13, "Returns the number of states");
        for (int count = 1; count <= 8; count++) {
            CurveOrders x = withText(states(count));
            due("read() of " + count, x.read(), count);
            due("states() of " + count, x.states(), count);
        }
    }

    private static void readSetsTheCurve() {
        sentence(13, "sets this curve");
        for (int curve = MORTON; curve <= TABLE; curve++) {
            CurveOrders x = withText("32100000;");
            x.setCurve(curve);
            due("index(7, 7) before", x.index(7, 7) > 0 ? 1 : 0, 1);
            x.read();
            due("index(7, 7)", x.index(7, 7), 0);
            due("setCurve(TABLE)", x.setCurve(TABLE), TABLE);
        }
    }

    private static void readOfFewerStates() {
        sentence(13, "Makes the states of the text those of the curve TABLE");
        CurveOrders x = withTable(3, "32107654;".repeat(8));
        x.clearText();
        type(x, "10321010;02310101;");
        due("read()", x.read(), 2);
        due("visit(0, 0)", x.visit(0, 0), 11);
        due("visit(1, 3)", x.visit(1, 3), 11);
        due("visit(2, 0)", x.visit(2, 0), BAD_INDEX);
        due("visit(7, 3)", x.visit(7, 3), BAD_INDEX);
    }

    private static void readKeepsTheText() {
        sentence(13, "The text stays.");
        CurveOrders x = withText("32100000;");
        x.read();
        due("faultPosition()", x.faultPosition(), NONE);
        due("read() again", x.read(), 1);
        due("append", x.append('0'), 10);
        due("read() with a fault", x.read(), NOT_POSSIBLE);
        due("clearText()", x.clearText(), 10);
    }

    private static void readMakesTheDivisionAnew() {
        sentence(DESCRIPTION, "until the division is made anew, which each call does that changes m, the curve");
        CurveOrders x = unbalanced();
        type(x, GOOD);
        x.read();
        x.balance();
        due("leaves() balanced", x.leaves(), 13);
        x.read();
        due("leaves() after read() of the same text", x.leaves(), 10);
    }

    private static void readKeepsTheRest() {
        sentence(13, "Makes the states of the text those of the curve TABLE, and sets this curve.");
        CurveOrders x = new CurveOrders();
        x.setLevels(2);
        x.setRange(1, 1, 1, 1);
        x.addPoint(3, 3);
        x.setBucket(5);
        type(x, "32100000;");
        x.read();
        due("interval(0, false)", x.interval(0, false), 12);
        due("nearest(0, 0)", x.nearest(0, 0), 0);
        due("points()", x.points(), 1);
        due("setBucket(5)", x.setBucket(5), 5);
        due("setLevels(2)", x.setLevels(2), 2);
    }
}
