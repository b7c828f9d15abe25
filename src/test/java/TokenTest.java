/** Promises 6 and 7: bytes on the tape, and the edges of what is a token, a text, a fault. */
public final class TokenTest {
    private static final Due DUE = new Due("TokenTest");
    private static final String REST = "; slope 0; bears 0;";
    private static final String WHOLE = "felt 1;slope 2;bears 3;";
    private static final String[] WORDS =
            {"felt", "slope", "bears", "told", "more", "far", "weight", "knot", "who", "or", "and", "not"};
    private static final int SIZE = 160;

    public static void main(String[] args) {
        oneByOne();
        lastRoom();
        fullTape();
        prefixes();
        everyByteBehindNumber();
        everyByteBehindWord();
        everyByteAtTheEnds();
        everyByteForSign();
        words();
        numbers();
        asLongAsCanBe();
        blanks();
        keysInOrder();
        oneComparison();
        fiveOpen();
        emptyThen();
        sixTexts();
        DUE.end();
    }

    private static void reads(int promise, String text, int want) {
        DUE.is(promise + ": \"" + shown(text) + "\"", Nets.read(new OneNet(), text), want);
    }

    private static String shown(String text) {
        StringBuilder shown = new StringBuilder();
        for (char c : text.toCharArray()) {
            shown.append(c >= 32 && c < 127 ? "" + c : "[" + (int) c + "]");
        }
        return shown.toString();
    }

    private static void fault(String text, int place) {
        reads(7, text, -100 - place);
    }

    private static void isText(String text) {
        reads(7, text, 1);
    }

    private static String many(String piece, int times) {
        return piece.repeat(times);
    }

    private static void oneByOne() {
        for (int n = 1; n <= 5; n++) {
            OneNet x = new OneNet();
            DUE.is("6: the first " + n, x.feed(n, 'f', 'e', 'l', 't', ' '), n);
            Nets.feed(x, WHOLE.substring(n));
            DUE.is("6: in their order, and no more than " + n, x.text(), 1);
        }
        OneNet x = new OneNet();
        DUE.is("6: 5", x.feed(5, 'f', 'e', 'l', 't', '1'), 5);
        DUE.is("6: behind those that are there", x.feed(2, ';', '$', 'a', 'b', 'c'), 7);
        DUE.is("6: the seventh is the fault", x.text(), -106);
    }

    /** For each n: just room enough, and one byte less. */
    private static void lastRoom() {
        for (int n = 1; n <= 5; n++) {
            OneNet x = new OneNet();
            Nets.feed(x, many(" ", SIZE - n));
            DUE.is("6: room for just " + n, x.feed(n, ' ', ' ', ' ', ' ', ' '), SIZE);
            DUE.is("5: 160 bytes", x.count(5), SIZE);
            OneNet y = new OneNet();
            Nets.feed(y, many(" ", SIZE - n + 1));
            DUE.is("6: room for one less than " + n, y.feed(n, ' ', ' ', ' ', ' ', ' '), OneNet.FULL);
            DUE.is("6: none comes", y.count(5), SIZE - n + 1);
        }
    }

    private static void fullTape() {
        String longest = many(" ", SIZE - WHOLE.length()) + WHOLE;
        isText(longest);
        fault(many(" ", SIZE), SIZE);
        fault(many(" ", SIZE - 1) + "$", SIZE - 1);
        fault(longest.substring(1) + "x", SIZE - 1);
        fault(" " + longest.substring(1, SIZE - 1), SIZE - 1);
        fault(" " + longest.substring(1, SIZE - 1) + " ", SIZE);
        fault(many("a", SIZE), 0);
        fault("felt " + many("9", SIZE - 5), 5);
        fault("felt 1" + many("+1", 77), SIZE);
        isText("felt1" + many("+1", 70) + ";slope1;bears1;");
        OneNet x = new OneNet();
        Nets.feed(x, longest);
        x.feed(1, '$', 0, 0, 0, 0);
        DUE.is("6: what has no room does no harm", x.text(), 1);
    }

    /** A text that ends too early, at each of its bytes. */
    private static void prefixes() {
        int[] places = {0, 0, 0, 0, 4, 5, 6, 7, 7, 7, 7, 7, 12, 13, 14, 15, 15, 15, 15, 15, 20, 21, 22};
        for (int n = 0; n < WHOLE.length(); n++) {
            fault(WHOLE.substring(0, n), places[n]);
        }
        isText(WHOLE);
    }

    private static boolean isIn(char c, String bytes) {
        return bytes.indexOf(c) >= 0;
    }

    private static boolean isLetter(char c) {
        return isIn(c, "abcdefghijklmnopqrstuvwxyz");
    }

    private static boolean isDigit(char c) {
        return isIn(c, "0123456789");
    }

    private static void everyByteBehindNumber() {
        for (char c = 0; c < 256; c++) {
            String text = "felt 1" + c + ";slope 2;bears 3;";
            if (isIn(c, " \n") || isDigit(c)) {
                isText(text);
            } else {
                // Of a sign that may stand behind a number the next byte is the fault.
                fault(text, isIn(c, ";+-*<=") ? 7 : 6);
            }
        }
    }

    private static void everyByteBehindWord() {
        for (char c = 0; c < 256; c++) {
            String text = "felt told" + c + ";slope 2;bears 3;";
            if (isIn(c, " \n")) {
                isText(text);
            } else {
                fault(text, isLetter(c) ? 5 : isIn(c, ";+-*<=") ? 10 : 9);
            }
        }
    }

    private static void everyByteAtTheEnds() {
        for (char c = 0; c < 256; c++) {
            reads(7, c + WHOLE, isIn(c, " \n") ? 1 : -100);
            reads(7, WHOLE + c, isIn(c, " \n") ? 1 : -123);
        }
    }

    /** Any byte in the place of a sign: only that sign is it. */
    private static void everyByteForSign() {
        for (char c = 0; c < 256; c++) {
            boolean isBlank = isIn(c, " \n");
            String closing = "felt (1" + c + ";slope 2;bears 3;";
            if (c == ')') {
                isText(closing);
            } else {
                fault(closing, isBlank || isDigit(c) || isIn(c, "+-*<=") ? 8 : 7);
            }
            String opening = "felt " + c + "1);slope 2;bears 3;";
            if (c == '(') {
                isText(opening);
            } else {
                fault(opening, isBlank || isDigit(c) || c == '-' ? 7 : 5);
            }
            String ending = "felt 1" + c + "slope 2;bears 3;";
            if (c == ';') {
                isText(ending);
            } else {
                fault(ending, isBlank || isDigit(c) || isIn(c, "+-*<=") ? 7 : 6);
            }
            String between = "felt 1" + c + "1;slope 2;bears 3;";
            if (isDigit(c) || isIn(c, "+-*<=")) {
                isText(between);
            } else {
                fault(between, isBlank || c == ';' ? 7 : 6);
            }
        }
    }

    /** A word that is one letter short, or long, is no word. */
    private static void words() {
        for (String word : WORDS) {
            fault("felt 1 " + word.substring(0, word.length() - 1) + REST, 7);
            fault("felt 1 " + word + "x" + REST, 7);
            fault("felt 1 " + word.substring(1) + REST, 7);
            fault("felt 1 " + word.toUpperCase() + REST, 7);
            fault("felt 1 + " + word.substring(0, word.length() - 1) + REST, 9);
        }
        for (int w = 0; w < 3; w++) {
            fault("felt " + WORDS[w] + REST, 5);
        }
        for (int w = 3; w < 9; w++) {
            isText("felt " + WORDS[w] + REST);
        }
        isText("felt 1 or 1 and not 1" + REST);
    }

    private static void numbers() {
        isText("felt 0" + REST);
        isText("felt 0000" + REST);
        isText("felt 9999" + REST);
        fault("felt 00000" + REST, 5);
        fault("felt 10000" + REST, 5);
        fault("felt 1 + 12345" + REST, 9);
        fault("felt 4294967296" + REST, 5);
        fault("felt 1;slope 2;bears 12345;", 21);
    }

    private static void asLongAsCanBe() {
        isText("felt1;slope2;bears3;");
        isText("felt1and1;slope2or2;bears3;");
        isText("felt not1;slope2;bears3;");
        fault("felt notnot 1" + REST, 5);
        fault("felt notfar" + REST, 5);
        fault("feltfar" + REST, 0);
        fault("felt far far" + REST, 9);
        fault("felt 12 34" + REST, 8);
        fault("felt 1 <= 2" + REST, 8);
        fault("felt 1 =< 2" + REST, 8);
        isText("felt 1--1" + REST);
        isText("felt 1<-1" + REST);
    }

    private static void blanks() {
        isText("\n\n felt\n1\n+ 1 ;\nslope (\n2 ) ; bears\n- 3 ;\n ");
        fault("fe lt 1" + REST, 0);
        fault("felt to ld" + REST, 5);
        fault("felt 1 1" + REST, 7);
        isText("felt - - 1" + REST);
    }

    private static void keysInOrder() {
        fault("slope 1;felt 2;bears 3;", 0);
        fault("felt 1;bears 3;slope 2;", 7);
        fault("felt 1;slope 2;felt 3;", 15);
        fault("felt 1;slope 2;slope 2;bears 3;", 15);
        fault(WHOLE + WHOLE, 23);
        fault("felt 1 slope 2;bears 3;", 7);
        fault("felt 1;;slope 2;bears 3;", 7);
        fault(";felt 1;slope 2;bears 3;", 0);
        fault("felt;slope 2;bears 3;", 4);
        fault("felt 1;slope;bears 3;", 12);
        fault("felt 1;slope 2;bears;", 20);
        // Two faults: the first one is told, be it one of grammar or of a byte.
        fault("felt ; $", 5);
        fault("felt $ ;", 5);
        fault("felt 1 ) 12345", 7);
    }

    private static void oneComparison() {
        isText("felt 1 < 2" + REST);
        isText("felt not 1 = 2 and 3 < 4 or not 5 = 6" + REST);
        isText("felt (1 < 2) < 3" + REST);
        fault("felt 1 < 2 = 3" + REST, 11);
        fault("felt 1 = 2 < 3" + REST, 11);
        fault("felt < 1" + REST, 5);
        fault("felt 1 <" + REST, 8);
        fault("felt 1 < 2 + not 3" + REST, 13);
        fault("felt 1 * not 3" + REST, 9);
        fault("felt 1 and and 1" + REST, 11);
    }

    /** Five of ( , not and - may be open at once, in each part anew, a sixth is a fault. */
    private static void fiveOpen() {
        String five = "(not(-(1)))";
        isText("felt " + five + ";slope " + five + ";bears " + five + ";");
        isText("felt " + five + "+" + five + "<" + five + " or " + five + REST);
        isText("felt (((((1)))))-(((((1)))))" + REST);
        isText("felt -----1------1" + REST);
        fault("felt -----1-------1" + REST, 17);
        isText("felt not not not not not 1 < 1 or - - - - - 1" + REST);
        isText("felt (((((1 - 1 - 1)))))" + REST);
        fault("felt not not not not not 1 < -1" + REST, 29);
        fault("felt not not not not not (1)" + REST, 25);
        fault("felt -----(1)" + REST, 10);
        fault("felt ------1" + REST, 10);
        fault("felt (((((-1)))))" + REST, 10);
        fault("felt (((((not 1)))))" + REST, 10);
        fault("felt (((((1)-((1))" + REST, 14);
        fault("felt ((((1)-((1))" + REST, 17);
        fault("felt 1;slope 2;bears ((((((1))))));", 26);
        fault("felt 1;slope ------2;bears 1;", 18);
    }

    private static void emptyThen() {
        OneNet x = new OneNet();
        DUE.is("7: an empty tape ends too early", x.text(), -100);
        DUE.is("7: no text came of it", x.count(3), 1);
        Nets.feed(x, "felt 1;slope 2;$");
        DUE.is("7: a fault", x.text(), -115);
        DUE.is("7: THE TAPE is empty by it", x.count(5), 0);
        DUE.is("7: again", x.text(), -100);
        Nets.feed(x, WHOLE);
        DUE.is("7: the next number, whatever faults there were", x.text(), 1);
        DUE.is("7: THE TAPE is empty then", x.count(5), 0);
        DUE.is("7: THE LAW is as it was", x.count(4), 0);
        Nets.feed(x, many(" ", SIZE));
        x.text();
        DUE.is("6: a full tape has all its room again", x.feed(5, ' ', ' ', ' ', ' ', ' '), 5);
    }

    private static void sixTexts() {
        OneNet x = new OneNet();
        for (int t = 1; t <= 5; t++) {
            DUE.is("7: TEXT " + t, Nets.read(x, "felt " + t + REST), t);
        }
        DUE.is("5: 6 at most", x.count(3), 6);
        DUE.is("7: FULL, though the tape is empty", x.text(), OneNet.FULL);
        Nets.feed(x, WHOLE);
        DUE.is("7: FULL, though it is a text", x.text(), OneNet.FULL);
        DUE.is("7: THE TAPE stays", x.count(5), WHOLE.length());
        DUE.is("5: still 6", x.count(3), 6);
        for (int t = 5; t >= 1; t--) {
            x.force(t);
            DUE.is("8: what TEXT " + t + " says", x.asks(0, 0, 0, 0, 0), t);
        }
    }
}
