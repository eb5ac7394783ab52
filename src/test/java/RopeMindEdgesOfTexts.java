/** ==== 2. of the document's terms, with promises 13 to 16: the tape, what texts may hold, where faults are. */
public final class RopeMindEdgesOfTexts {
    private static final int N = Ready.N;
    private static final int LOW = Ready.LOW;
    private static final int HIGH = Ready.HIGH;
    private static final String[] WORD = {"tie", "forget", "hold"};
    private static final String[][] ASKED = {
        {"habit", "age", "place", "knot", "tight", "wet", "beside", "ties"},
        {"habit", "age", "place", "knot", "tight", "wet"},
        {"tied", "tight", "cross", "years", "place", "length", "wet", "habits"}};
    private static final String[] ALL_WORDS = {"habit", "age", "place", "knot", "tight", "wet", "beside", "ties", "tied", "cross",
        "years", "length", "habits", "tie", "forget", "hold", "when", "or", "and", "not", "at", "untie", "pull", "rest", "again",
        "o", "u", "t"};

    private RopeMindEdgesOfTexts() { }

    public static void main(String[] args) {
        theTapeHas400Bytes();
        bytesComeHighestFirst();
        endKeepsTheFirstBytes();
        textsAreEmptyAtFirst();
        textsAreEight();
        theTapeIsEmptyThen();
        aFaultyTextChangesNothing();
        faultTellsOfTheLatestText();
        emptyTexts();
        wordsOfEachLaw();
        wordsThatGoOn();
        wordsOfADrill();
        numbersHaveFourDigits();
        everyByteInALaw();
        everyByteInAShape();
        blanksAreTwo();
        checksNeedTheirParts();
        sumsNeedTheirParts();
        partsByZero();
        theSeventeenthLine();
        theNinthThatIsOpen();
        whatIsClosedIsNotOpen();
        numbersOfADrill();
        stepsNeedTheirParts();
        theFifthAgain();
        moreThan150Steps();
        theEighthLetter();
        theFirstFaultByPlace();
        theLeastFaultAtOnePlace();
        theEndIsTheLength();
        textsOf400Bytes();
        Check.end();
    }

    private static void due(String call, long got, long want) {
        Check.due(call, got, want);
    }

    private static void due(String call, boolean got, boolean want) {
        Check.due(call, got, want);
    }

    private static void good(int k, String text, int many) {
        RopeMind x = new RopeMind();
        due("text(" + k + ") of '" + text + "'", Check.tell(x, k, text), many);
        due("fault(0) of '" + text + "'", x.fault(0), 0);
        due("fault(1) of '" + text + "'", x.fault(1), N);
        if (k < 4) {
            due("look(" + (5 + k) + ") of '" + text + "'", x.look(5 + k), many);
        } else {
            due("shape(" + (k - 4) + ", 0) of '" + text + "'", x.shape(k - 4, 0), many);
        }
    }

    private static void faulty(int k, String text, int fault, int place) {
        RopeMind x = new RopeMind();
        due("text(" + k + ") of '" + text + "'", Check.tell(x, k, text), N);
        due("fault(0) of '" + text + "'", x.fault(0), fault);
        due("fault(1) of '" + text + "'", x.fault(1), place);
    }

    // The tape.

    private static void theTapeHas400Bytes() {
        Check.part("feed: NONE, and nothing comes, if there would be more than 400");
        RopeMind x = new RopeMind();
        for (int i = 1; i <= 20; i++) {
            due("feed", x.feed(0x6f6f6f6f, 0, 0, 0, 0), 20 * i);
        }
        due("420", x.feed(0, 0, 0, 0, 0), N);
        due("nothing came: end(401)", x.end(401), false);
        due("end(400)", x.end(400), true);
        due("420 again", x.feed(0, 0, 0, 0, 0), N);
        due("end(381)", x.end(381), true);
        due("401", x.feed(0, 0, 0, 0, 0), N);
        due("nothing came: end(382)", x.end(382), false);
        due("end(380)", x.end(380), true);
        due("400", x.feed(0, 0, 0, 0, 0), 400);
        due("end(1)", x.end(1), true);
        due("21", x.feed(0, 0, 0, 0, 0), 21);
    }

    private static void bytesComeHighestFirst() {
        Check.part("feed: Twenty bytes, of each number the highest first");
        RopeMind x = new RopeMind();
        x.feed(0x6f207574, 0x20202020, 0x20202020, 0x20202020, 0x7520206f);
        due("five letters", x.text(4), 5);
        int[] letters = {0, 1, 2, 1, 0};
        for (int i = 0; i < 5; i++) {
            due("letter " + i, x.shape(0, 10 + i), letters[i]);
        }
        for (int i = 0; i < 20; i++) {
            RopeMind y = new RopeMind();
            int[] v = Check.numbers(" ".repeat(i) + "x", 0);
            y.feed(v[0], v[1], v[2], v[3], v[4]);
            due("an x at " + i, y.text(4), N);
            due("its place is " + i, y.fault(1), i);
        }
        RopeMind low = new RopeMind();
        low.feed(-1, 0, 0, 0, 0);
        due("a byte of 255", low.text(4), N);
        due("is at 0", low.fault(1), 0);
    }

    private static void endKeepsTheFirstBytes() {
        Check.part("end: The TAPE has its first n bytes alone; false, changing nothing, if it has not so many, or n is below 0");
        RopeMind x = new RopeMind();
        due("end(0) of an empty one", x.end(0), true);
        due("end(1) of an empty one", x.end(1), false);
        due("end(-1) of an empty one", x.end(-1), false);
        x.feed(0x6f757420, 0x6f757420, 0x20202020, 0x20202020, 0x20202020);
        for (int n : new int[] {21, -1, LOW, HIGH, 400, 401}) {
            due("end(" + n + ")", x.end(n), false);
        }
        due("end(20)", x.end(20), true);
        due("end(6)", x.end(6), true);
        due("end(7)", x.end(7), false);
        due("end(6) again", x.end(6), true);
        due("the first six bytes alone", x.text(4), 5);
        due("the last of them", x.shape(0, 14), 1);
        x.feed(0x6f757420, 0x6f757420, 0x20202020, 0x20202020, 0x20202020);
        due("end(0)", x.end(0), true);
        due("empty", x.text(4), 0);
    }

    // What texts are there, and when they stay.

    private static void textsAreEmptyAtFirst() {
        Check.part("TEXTS (empty at first)");
        RopeMind x = Ready.with(2);
        for (int what = 5; what <= 8; what++) {
            due("look(" + what + ")", x.look(what), 0);
        }
        for (int k = 0; k < 4; k++) {
            due("letters of " + k, x.shape(k, 0), 0);
            due("letter 0 of " + k, x.shape(k, 10), N - 99);
        }
        Ready.habit(x, 0, 0, 0, 99);
        due("NEED (none: 100 less HABIT)", x.at(0, 0, 2), 1);
        due("LOSS (none: 1)", x.habit(0, 0, 0, 2), 1);
        due("STRENGTH (none: 90)", x.at(0, 0, 3), 90);
        due("a DRILL of no STEPS", x.drill(0, 0), 0);
    }

    private static void textsAreEight() {
        Check.part("text: NONE: no such one (fault() tells 0)");
        for (int k : new int[] {-1, 8, LOW, HIGH, 9, -8}) {
            RopeMind x = new RopeMind();
            Check.tell(x, 0, "oops");
            due("a FAULT ahead of it", x.fault(0), 1);
            due("text(" + k + ")", Check.tell(x, k, "o"), N);
            due("fault(0)", x.fault(0), 0);
            due("fault(1)", x.fault(1), N);
            for (int what = 5; what <= 8; what++) {
                due("look(" + what + ")", x.look(what), 0);
            }
            for (int i = 0; i < 4; i++) {
                due("shape(" + i + ", 0)", x.shape(i, 0), 0);
            }
        }
        String[] one = {"tie 1;", "forget 1;", "hold 1;", "wet 1;", "o", "o", "o", "o"};
        for (int k = 0; k < 8; k++) {
            RopeMind x = new RopeMind();
            due("text(" + k + ")", Check.tell(x, k, one[k]), 1);
            for (int i = 0; i < 8; i++) {
                due("of text " + i, i < 4 ? x.look(5 + i) : x.shape(i - 4, 0), i == k ? 1 : 0);
            }
        }
    }

    private static void theTapeIsEmptyThen() {
        Check.part("text: The TAPE, empty then");
        for (int k = 0; k < 8; k++) {
            RopeMind x = new RopeMind();
            Check.tape(x, "   ");
            due("text(" + k + ")", x.text(k), 0);
            due("end(1)", x.end(1), false);
            Check.tape(x, ".");
            due("a FAULT", x.text(k), N);
            due("end(1) after it", x.end(1), false);
            due("feed", x.feed(0, 0, 0, 0, 0), 20);
        }
    }

    private static void aFaultyTextChangesNothing() {
        Check.part("text: a FAULT (it stays as it was)");
        RopeMind x = Ready.with(4);
        Ready.habit(x, 0, 0, 0, 5);
        Ready.tell(x, 0, "tie 7;tie 8;");
        due("TYING", Check.tell(x, 0, "tie 1;tie 2;tie 3"), N);
        due("its lines", x.look(5), 2);
        due("what it says", x.at(0, 0, 2), 7);
        Ready.tell(x, 1, "forget 4;");
        due("FORGETTING", Check.tell(x, 1, "forget 9;forget"), N);
        due("its lines", x.look(6), 1);
        due("what it says", x.habit(0, 0, 0, 2), 4);
        Ready.tell(x, 2, "hold 33;");
        due("HOLDING", Check.tell(x, 2, "hold 9;hold 3/0;"), N);
        due("its lines", x.look(7), 1);
        due("what it says", x.at(0, 0, 3), 33);
        Ready.tell(x, 3, "tie 3 at 1;wet 4;");
        due("A DRILL", Check.tell(x, 3, "tie 2 at 2;wet 5;wet 10;"), N);
        due("its STEPS", x.look(8), 2);
        due("they are done", x.drill(0, 0), 2);
        due("the KNOT", x.at(0, 1, 0), 3);
        due("at its PLACE alone", x.at(0, 2, 0), N);
        due("WET", x.of(0, 3), 4);
        Check.tell(x, 3, "again 1(again 1(again 1(again 1(wet");
        due("what a faulty one left open is not open then", Check.tell(x, 3, "again 1(again 1(again 1(again 1(wet 1;))))"), 1);
        for (int k = 0; k < 4; k++) {
            Ready.tell(x, 4 + k, "outu");
            due("a SHAPE", Check.tell(x, 4 + k, "ttttttx"), N);
            due("its letters", x.shape(k, 0), 4);
            due("the first", x.shape(k, 10), 0);
            due("the last", x.shape(k, 13), 1);
        }
    }

    private static void faultTellsOfTheLatestText() {
        Check.part("fault: Of the latest text(): what 0 the FAULT (0 without one), 1 its place (NONE). NONE for another what");
        RopeMind x = new RopeMind();
        due("fault(0) at first", x.fault(0), 0);
        due("fault(1) at first", x.fault(1), N);
        Check.tell(x, 0, "tie 1;x");
        due("fault(0)", x.fault(0), 1);
        due("fault(1)", x.fault(1), 6);
        for (int what : new int[] {-1, 2, LOW, HIGH}) {
            due("fault(" + what + ")", x.fault(what), N);
        }
        x.feed(0, 0, 0, 0, 0);
        x.end(0);
        x.rope(2, 0);
        due("it stays by other calls", x.fault(0), 1);
        due("its place too", x.fault(1), 6);
        Check.tell(x, 3, "wet 10;");
        due("another one's", x.fault(0), 2);
        due("its place", x.fault(1), 4);
        x.text(0);
        due("without one", x.fault(0), 0);
        due("without a place", x.fault(1), N);
        Check.tell(x, 4, "x");
        due("a place of 0", x.fault(1), 0);
    }

    private static void emptyTexts() {
        Check.part("{..}: none, too");
        for (int k = 0; k < 8; k++) {
            good(k, "", 0);
            good(k, " ", 0);
            good(k, "\n \n", 0);
            RopeMind x = new RopeMind();
            Ready.tell(x, k, k < 3 ? WORD[k] + " 1;" : k == 3 ? "wet 1;" : "o");
            due("text(" + k + ") of nothing", x.text(k), 0);
            due("it is empty again", k < 4 ? x.look(5 + k) : x.shape(k - 4, 0), 0);
        }
    }

    // Tokens.

    private static boolean isOneOf(String word, String[] words) {
        for (String w : words) {
            if (w.equals(word)) {
                return true;
            }
        }
        return false;
    }

    private static void wordsOfEachLaw() {
        Check.part("U = NUMBER | what the LAW asks");
        for (int k = 0; k < 3; k++) {
            String start = WORD[k] + " ";
            for (String word : ALL_WORDS) {
                if (isOneOf(word, ASKED[k])) {
                    good(k, start + word + ";", 1);
                    good(k, start + "1 when " + word + "=" + word + ";", 1);
                } else {
                    faulty(k, start + word + ";", 1, start.length());
                    faulty(k, start + "1 when 1=" + word + ";", 1, start.length() + 9);
                }
            }
            for (int other = 0; other < 3; other++) {
                if (other == k) {
                    good(k, WORD[other] + " 1;", 1);
                } else {
                    faulty(k, WORD[other] + " 1;", 1, 0);
                    faulty(k, WORD[k] + " 1;" + WORD[other] + " 1;", 1, WORD[k].length() + 3);
                }
            }
        }
    }

    private static void wordsThatGoOn() {
        Check.part("letters as many as stand together are KEYWORDS or none");
        faulty(0, "ti 1;", 1, 0);
        faulty(0, "tiee 1;", 1, 0);
        for (char c = 'A'; c <= 'z'; c++) {
            boolean letter = c <= 'Z' || c >= 'a';
            faulty(0, "tie" + c + " 1;", 1, letter ? 0 : 3);
        }
        for (char c : new char[] {'@', '[', '`', '{'}) {
            faulty(0, "tie" + c + " 1;", 1, 3);
        }
        faulty(0, "Tie 1;", 1, 0);
        faulty(0, "TIE 1;", 1, 0);
        faulty(0, "tie agewet;", 1, 4);
        faulty(0, "tie 1 when1=1 andnot 1=1;", 1, 14);
        faulty(0, "tie 1 whennot 1=1;", 1, 6);
        faulty(0, "tieage;", 1, 0);
        faulty(0, "tie ag e;", 1, 4);
        faulty(0, "t ie 1;", 1, 0);
        good(0, "tie1;", 1);
        good(0, "tie 1when not(1=1)and(1=1)or 1=1;", 1);
        faulty(3, "untie1;untiee 1;", 1, 7);
        good(3, "untie1;tie1at1;again2(wet1;)", 4);
    }

    private static void wordsOfADrill() {
        Check.part("STEP = tie KNOT at PLACE ; | untie PLACE ; | pull FORCE ; | wet N ; | rest N ; | again N ( {STEP} )");
        good(3, "tie 0 at 0;", 1);
        good(3, "untie 0;", 1);
        good(3, "pull 0;", 1);
        good(3, "wet 0;", 1);
        good(3, "rest 1;", 1);
        good(3, "again 1()", 0);
        for (String word : ALL_WORDS) {
            boolean begins = isOneOf(word, new String[] {"tie", "untie", "pull", "wet", "rest", "again"});
            faulty(3, word + " x", 1, begins ? word.length() + 1 : 0);
        }
    }

    private static void numbersHaveFourDigits() {
        Check.part("digits as many as stand together NUMBERS of 1 to 4 digits or none");
        good(0, "tie 0;", 1);
        good(0, "tie 9999;", 1);
        good(0, "tie 0000;", 1);
        faulty(0, "tie 10000;", 1, 4);
        faulty(0, "tie 00001;", 1, 4);
        faulty(0, "tie 00000;", 1, 4);
        faulty(0, "tie 123456789012;", 1, 4);
        faulty(0, "tie 4294967297;", 1, 4);
        faulty(0, "tie 12 34;", 1, 7);
        faulty(0, "tie 1/10000;", 1, 6);
        faulty(0, "tie 1 when 1=10000;", 1, 13);
        good(3, "wet 0009;", 1);
        faulty(3, "wet 00009;", 1, 4);
        faulty(3, "tie 1 at 00001;", 1, 9);
        good(3, "again 0002(wet 1;)", 2);
        faulty(3, "again 00002(wet 1;)", 1, 6);
    }

    private static void everyByteInALaw() {
        Check.part("; + - * / ( ) < = > . Blanks (32, 10) between");
        for (int c = 0; c < 256; c++) {
            String text = "tie 1" + (char) c + ";";
            if (c == 32 || c == 10 || c >= '0' && c <= '9') {
                good(0, text, 1);
            } else if (";+-*/".indexOf((char) c) >= 0) {
                faulty(0, text, 1, 6);
            } else {
                faulty(0, text, 1, 5);
            }
            boolean goesOn = c == 32 || c == 10;
            String drill = "wet 1;" + (char) c;
            if (goesOn) {
                good(3, drill, 1);
            } else {
                faulty(3, drill, 1, 6);
            }
        }
    }

    private static void everyByteInAShape() {
        Check.part("{o | u | t} (letters one by one, blanks between or not)");
        for (int c = 0; c < 256; c++) {
            String text = "ou" + (char) c;
            if (c == 'o' || c == 'u' || c == 't') {
                good(4, text, 3);
            } else if (c == 32 || c == 10) {
                good(4, text, 2);
            } else {
                faulty(4, text, 1, 2);
            }
        }
    }

    private static void blanksAreTwo() {
        Check.part("Blanks (32, 10) between");
        good(0, "\n\n tie \n 1 \n + \n 2 \n when \n 1 \n = \n 1 \n ; \n", 1);
        faulty(0, "tie\t1;", 1, 3);
        faulty(0, "tie\r1;", 1, 3);
        faulty(0, "tie 1;\t", 1, 6);
        faulty(0, "tie 1;" + (char) 0, 1, 6);
        faulty(0, "tie 1;" + (char) 160, 1, 6);
        good(3, "\nagain\n2\n(\nwet\n1\n;\n)\n", 2);
        good(5, "\no \nu\n\nt ", 3);
        faulty(5, "o\ru", 1, 1);
    }

    // The grammar of laws.

    private static void checksNeedTheirParts() {
        Check.part("B = A {or A}. A = C {and C}. C = E (< | = | >) E | not C | ( B )");
        good(0, "tie 1 when 1<1;", 1);
        good(0, "tie 1 when 1=1;", 1);
        good(0, "tie 1 when 1>1;", 1);
        faulty(0, "tie 1 when 1<=1;", 1, 13);
        faulty(0, "tie 1 when 1==1;", 1, 13);
        faulty(0, "tie 1 when 1<1<1;", 1, 14);
        faulty(0, "tie 1 when =1;", 1, 11);
        faulty(0, "tie 1 when 1=;", 1, 13);
        faulty(0, "tie 1 when 1=1 or;", 1, 17);
        faulty(0, "tie 1 when or 1=1;", 1, 11);
        faulty(0, "tie 1 when and 1=1;", 1, 11);
        faulty(0, "tie 1 when 1=1 and or 1=1;", 1, 19);
        faulty(0, "tie 1 when 1=1 1=1;", 1, 15);
        faulty(0, "tie 1 when not;", 1, 14);
        faulty(0, "tie 1 when not and 1=1;", 1, 15);
        faulty(0, "tie 1 when (1=1;", 1, 15);
        faulty(0, "tie 1 when ();", 1, 12);
        faulty(0, "tie 1 when (1=1));", 1, 16);
        faulty(0, "tie 1 when (1)=1;", 1, 13);
        faulty(0, "tie 1 when (1=1)=1;", 1, 16);
        faulty(0, "tie 1 when 1=1 when 1=1;", 1, 15);
        faulty(0, "tie 1 when not when 1=1;", 1, 15);
        faulty(0, "tie when 1=1;", 1, 4);
        faulty(0, "when 1=1;", 1, 0);
        faulty(0, "tie 1=1;", 1, 5);
        faulty(0, "tie 1 and 1;", 1, 6);
        faulty(0, "tie not 1;", 1, 4);
        good(0, "tie 1 when not (not 1=1 and (1<2 or 2>1)) or 1=2;", 1);
    }

    private static void sumsNeedTheirParts() {
        Check.part("E = T {(+ | -) T}. T = U {* U | / NUMBER}");
        good(0, "tie 1+2-3*4/5*6+7;", 1);
        faulty(0, "tie +1;", 1, 4);
        faulty(0, "tie -1;", 1, 4);
        faulty(0, "tie 1+-1;", 1, 6);
        faulty(0, "tie 1*;", 1, 6);
        faulty(0, "tie 1/;", 1, 6);
        faulty(0, "tie 1-;", 1, 6);
        faulty(0, "tie 1*-1;", 1, 6);
        faulty(0, "tie 1/habit;", 1, 6);
        faulty(0, "tie 1/(1);", 1, 6);
        faulty(0, "tie (1);", 1, 4);
        faulty(0, "tie 1*(1);", 1, 6);
        faulty(0, "tie habit age;", 1, 10);
        faulty(0, "tie 1 when 1=1+;", 1, 15);
        faulty(0, "tie 1 when 1*=1;", 1, 13);
    }

    private static void partsByZero() {
        Check.part("2 (at the NUMBER) a part by 0");
        good(0, "tie 1/1;", 1);
        good(0, "tie 1/9999;", 1);
        good(0, "tie 0/1*0;", 1);
        for (int k = 0; k < 3; k++) {
            int at = WORD[k].length() + 3;
            faulty(k, WORD[k] + " 1/0;", 2, at);
            faulty(k, WORD[k] + " 1/0000;", 2, at);
            faulty(k, WORD[k] + " 1/00000;", 1, at);
            faulty(k, WORD[k] + " 1/ \n0;", 2, at + 2);
        }
        faulty(0, "tie 1 when 1=1/0;", 2, 15);
        faulty(0, "tie 1 when 1/0=1;", 2, 13);
        faulty(0, "tie 1/0", 2, 6);
        faulty(0, "tie 1*2/3*4/0;", 2, 12);
    }

    private static void theSeventeenthLine() {
        Check.part("3 (at its KEYWORD) the 17th line");
        for (int k = 0; k < 3; k++) {
            String line = WORD[k] + " 1;";
            good(k, line.repeat(15), 15);
            good(k, line.repeat(16), 16);
            faulty(k, line.repeat(17), 3, 16 * line.length());
            faulty(k, line.repeat(18), 3, 16 * line.length());
            faulty(k, line.repeat(16) + WORD[k], 3, 16 * line.length());
            faulty(k, line.repeat(16) + " \n" + line, 3, 16 * line.length() + 2);
            good(k, line.repeat(16) + " \n", 16);
        }
    }

    private static void theNinthThatIsOpen() {
        Check.part("(at it) the 9th ( or not that is open");
        String start = "tie 1 when ";
        for (int nots = 0; nots <= 8; nots++) {
            int left = 8 - nots;
            String open = "not ".repeat(nots) + "(".repeat(left);
            good(0, start + open + "1=1" + ")".repeat(left) + ";", 1);
            faulty(0, start + open + "(1=1" + ")".repeat(left + 1) + ";", 3, start.length() + open.length());
            faulty(0, start + open + "not 1=1" + ")".repeat(left) + ";", 3, start.length() + open.length());
        }
        for (int k = 0; k < 3; k++) {
            String law = WORD[k] + " 1 when ";
            good(k, law + "not(".repeat(4) + "1=1" + ")".repeat(4) + ";", 1);
            faulty(k, law + "not(".repeat(5) + "1=1" + ")".repeat(5) + ";", 3, law.length() + 16);
        }
    }

    private static void whatIsClosedIsNotOpen() {
        Check.part("the 9th ( or not that is open: what is closed is not");
        String start = "tie 1 when ";
        String eight = "((((((((1=1))))))))";
        good(0, start + eight + " and " + eight + " or " + eight + ";", 1);
        String nots = "not not not not not not not not 1=1";
        good(0, start + nots + " and " + nots + " or " + nots + ";", 1);
        good(0, start + "(((((((not 1=1 and not 1=1 or (1=1)))))))) and not 1=1;", 1);
        good(0, start + eight + ";" + start + eight + ";", 2);
        good(0, start + "not ((((((1=1 or (1=1))))))) and " + eight + ";", 1);
        faulty(0, start + "(((((((not 1=1 and not (1=1))))))));", 3, start.length() + 23);
        faulty(0, start + "(((((((not 1=1 and not not 1=1)))))));", 3, start.length() + 23);
    }

    // The grammar of drills.

    private static void numbersOfADrill() {
        Check.part("2 of A DRILL: KNOT 0 .. 5, PLACE 0 .. 23, FORCE 0 .. 99, wet 0 .. 9, rest 1 .. 30, again 1 .. 9");
        good(3, "tie 5 at 23;", 1);
        good(3, "tie 0 at 0;", 1);
        faulty(3, "tie 6 at 23;", 2, 4);
        faulty(3, "tie 9999 at 23;", 2, 4);
        faulty(3, "tie 5 at 24;", 2, 9);
        faulty(3, "tie 5 at 9999;", 2, 9);
        good(3, "untie 23;", 1);
        faulty(3, "untie 24;", 2, 6);
        good(3, "pull 99;", 1);
        faulty(3, "pull 100;", 2, 5);
        good(3, "wet 9;", 1);
        faulty(3, "wet 10;", 2, 4);
        good(3, "rest 30;", 1);
        faulty(3, "rest 31;", 2, 5);
        faulty(3, "rest 0;", 2, 5);
        faulty(3, "rest 0000;", 2, 5);
        good(3, "again 9(wet 1;)", 9);
        good(3, "again 1(wet 1;)", 1);
        faulty(3, "again 10(wet 1;)", 2, 6);
        faulty(3, "again 0(wet 1;)", 2, 6);
        faulty(3, "again 9(rest 31;)", 2, 13);
        for (String step : new String[] {"untie ", "pull ", "wet ", "rest ", "again "}) {
            faulty(3, step + "-1;", 1, step.length());
        }
        faulty(3, "tie -1 at 0;", 1, 4);
        faulty(3, "tie 0 at -1;", 1, 9);
    }

    private static void stepsNeedTheirParts() {
        Check.part("1 what can't stand there, of A DRILL");
        faulty(3, "tie", 1, 3);
        faulty(3, "tie 1", 1, 5);
        faulty(3, "tie 1 at", 1, 8);
        faulty(3, "tie 1 at 1", 1, 10);
        faulty(3, "tie at 1;", 1, 4);
        faulty(3, "tie 1 1;", 1, 6);
        faulty(3, "tie 1 at;", 1, 8);
        faulty(3, "tie 1 at 1 1;", 1, 11);
        faulty(3, "untie;", 1, 5);
        faulty(3, "untie 1", 1, 7);
        faulty(3, "pull;", 1, 4);
        faulty(3, "pull 1 wet 1;", 1, 7);
        faulty(3, "wet;", 1, 3);
        faulty(3, "rest;", 1, 4);
        faulty(3, "again", 1, 5);
        faulty(3, "again (", 1, 6);
        faulty(3, "again 1", 1, 7);
        faulty(3, "again 1;", 1, 7);
        faulty(3, "again 1 wet 1;", 1, 8);
        faulty(3, "again 1(", 1, 8);
        faulty(3, "again 1(wet 1;", 1, 14);
        faulty(3, "again 1(wet 1)", 1, 13);
        faulty(3, "again 1();", 1, 9);
        faulty(3, "again 1())", 1, 9);
        faulty(3, ")", 1, 0);
        faulty(3, "wet 1;)", 1, 6);
        faulty(3, "(wet 1;)", 1, 0);
        faulty(3, "wet 1;;", 1, 6);
        faulty(3, "12;", 1, 0);
    }

    private static void theFifthAgain() {
        Check.part("(at again) the 5th that is open");
        good(3, "again 1(again 1(again 1(again 1(wet 1;))))", 1);
        faulty(3, "again 1(again 1(again 1(again 1(again 1(wet 1;)))))", 3, 32);
        faulty(3, "again 1(again 1(again 1(again 1(again", 3, 32);
        faulty(3, "again 1(again 1(again 1(again 1(wet 1; again 1()))))", 3, 39);
        String four = "again 1(again 1(again 1(again 1())))";
        good(3, four + four + four, 0);
        good(3, "again 1(again 1(again 1(again 1()again 1()again 1())))", 0);
        good(3, "again 1(again 1(again 1(again 1())again 1(again 1())))", 0);
        faulty(3, four + "again 1(again 1(again 1(again 1(again 1()))))", 3, four.length() + 32);
    }

    private static void moreThan150Steps() {
        Check.part("4 (at the end) more than 150 STEPS in one telling of A DRILL (each but again as often as it is told)");
        good(3, "again 5(again 5(again 6(wet 1;)))", 150);
        faulty(3, "again 5(again 5(again 6(wet 1;)))wet 1;", 4, 39);
        faulty(3, "wet 1;again 5(again 5(again 6(wet 1;)))", 4, 39);
        faulty(3, "wet 1;again 5(again 5(again 6(wet 1;))) \n", 4, 41);
        good(3, "again 7(again 7(wet 1;wet 2;wet 3;))wet 1;wet 2;wet 3;", 150);
        faulty(3, "again 7(again 7(wet 1;wet 2;wet 3;))wet 1;wet 2;wet 3;wet 4;", 4, 60);
        faulty(3, "again 9(again 9(again 9(again 9(wet 1;wet 2;))))", 4, 48);
        faulty(3, "again 8(again 9(again 2(wet 1;)again 1(wet 2;)))again 1()", 4, 57);
        good(3, "again 9(again 8(again 2(wet 1;)))again 6(wet 1;)again 9(again 9())", 150);
        String most = "wet1;".repeat(66) + "again 7(again 3(wet1;wet1;wet1;wet1;))";
        good(3, most, 150);
        faulty(3, most + "wet1;", 4, most.length() + 5);
        RopeMind x = Ready.with(2);
        Ready.tell(x, 3, "again 5(again 5(again 6(wet 1;)))");
        due("all 150 are done", x.drill(0, 0), 150);
    }

    private static void theEighthLetter() {
        Check.part("(at it) the 8th letter of a SHAPE; 7 at most");
        for (int k = 4; k < 8; k++) {
            good(k, "outouto", 7);
            good(k, " o u t o u t o \n", 7);
            faulty(k, "outoutou", 3, 7);
            faulty(k, "outouto t", 3, 8);
            faulty(k, "ooooooooo", 3, 7);
            faulty(k, "t t t t t t t\n\nt", 3, 15);
        }
        RopeMind x = new RopeMind();
        Ready.tell(x, 7, "outouto");
        int[] letters = {0, 1, 2, 0, 1, 2, 0};
        for (int i = 0; i < 7; i++) {
            due("letter " + i, x.shape(3, 10 + i), letters[i]);
        }
        due("shape(3, 17)", x.shape(3, 17), N - 99);
    }

    // Which fault it is.

    private static void theFirstFaultByPlace() {
        Check.part("FAULTS, the first by its place");
        faulty(0, "tie 1/0;x", 2, 6);
        faulty(0, "tie x;tie 1/0;", 1, 4);
        faulty(0, "tie 1;".repeat(16) + "tie 1/0;x", 3, 96);
        faulty(0, "tie 1;".repeat(15) + "tie 1/0;tie 1;", 2, 96);
        faulty(0, "tie 1/0 when (((((((((1=1)))))))));", 2, 6);
        faulty(0, "tie 1 when (((((((((1/0=1)))))))));", 3, 19);
        faulty(0, "tie 1 when ((((((((1/0=(1)))))))));", 2, 21);
        faulty(3, "wet 10;x", 2, 4);
        faulty(3, "wet x;wet 10;", 1, 4);
        faulty(3, "tie 6 at 24;", 2, 4);
        faulty(3, "again 0(again 1(again 1(again 1(again 1(", 2, 6);
        faulty(3, "again 9(again 9(again 9(wet 1;)))x", 1, 33);
        faulty(3, "again 9(again 9(again 9(wet 1;)))wet 10;", 2, 37);
        faulty(3, "again 9(again 9(again 9(again 9(again 9(wet 1;)))))", 3, 32);
        faulty(4, "oxooooooo", 1, 1);
        faulty(4, "oooooooox", 3, 7);
    }

    private static void theLeastFaultAtOnePlace() {
        Check.part("FAULTS, at one place the least");
        faulty(0, "tie 1;".repeat(16) + "hold 1;", 1, 96);
        faulty(0, "tie 1;".repeat(16) + ";", 1, 96);
        faulty(0, "tie 1;".repeat(16) + "tiex 1;", 1, 96);
        faulty(3, "again 9(again 9(again 2(wet 1;))", 1, 32);
        faulty(3, "again 9(again 9(again 2(wet 1;)))wet 1", 1, 38);
        faulty(4, "oooooooO", 1, 7);
        faulty(4, "ooooooo8", 1, 7);
        faulty(0, "tie 1/00000;", 1, 6);
        faulty(3, "wet 00010;", 1, 4);
    }

    private static void theEndIsTheLength() {
        Check.part("(the end: the text's length)");
        faulty(0, "tie", 1, 3);
        faulty(0, "tie ", 1, 4);
        faulty(0, "tie 1", 1, 5);
        faulty(0, "tie 1 \n\n ", 1, 9);
        faulty(0, "tie 1 when 1=1", 1, 14);
        faulty(0, "tie 1 when 1=1 ", 1, 15);
        faulty(3, "again 1(", 1, 8);
        faulty(3, "again 1(   ", 1, 11);
        faulty(3, "again 9(again 9(again 9(wet 1;)))    ", 4, 37);
        RopeMind x = new RopeMind();
        Check.tape(x, "tie 1;tie 2;");
        x.end(11);
        due("what end() took away is not there", x.text(0), N);
        due("the end", x.fault(1), 11);
    }

    private static void textsOf400Bytes() {
        Check.part("texts as long as the TAPE");
        good(0, "tie 1" + "+1".repeat(197) + ";", 1);
        faulty(0, "tie 1" + "+1".repeat(197) + "+", 1, 400);
        faulty(0, "tie 10" + "+1".repeat(197), 1, 400);
        good(0, "tie 1 when 1=1" + " or 1=1".repeat(55) + ";", 1);
        good(0, " ".repeat(394) + "tie 1;", 1);
        faulty(0, "tie 1;" + " ".repeat(393) + "x", 1, 399);
        good(3, " ".repeat(394) + "wet 1;", 1);
        good(3, "wet1;".repeat(80), 80);
        faulty(3, "wet1;".repeat(79) + "wet1 ", 1, 400);
        faulty(3, "again 1(".repeat(50), 3, 32);
        good(4, " ".repeat(399) + "o", 1);
        for (int k = 0; k < 8; k++) {
            faulty(k, " ".repeat(399) + "x", 1, 399);
            faulty(k, "\n".repeat(399) + ";", 1, 399);
            good(k, " ".repeat(400), 0);
        }
        faulty(4, "o".repeat(400), 3, 7);
        faulty(0, "(".repeat(400), 1, 0);
        faulty(0, "x".repeat(400), 1, 0);
        faulty(0, "9".repeat(400), 1, 0);
        faulty(0, "tie 1 when " + "(".repeat(389), 3, 19);
    }
}
