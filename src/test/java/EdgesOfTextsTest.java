/**
 * Part 3 of the terms and promises 14 to 17: a test for each sentence that names an edge.
 * Due.by() has the sentence's words.
 */
public final class EdgesOfTextsTest {
    private static final int MIN = Integer.MIN_VALUE, MAX = Integer.MAX_VALUE;
    private static final int BAD = PlateRound.BAD, FULL = PlateRound.FULL;
    private static final long NO = PlateRound.NO;
    private static final String GO = ";go 0;";

    public static void main(String[] args) {
        tapeOf160();
        tapeFedBeyond160();
        feedOutside();
        lowestBytesFirst();
        feedOfNegative();
        longestText();
        wordsAsLongAsCanBe();
        numbersAsLongAsCanBe();
        numberOfFourDigits();
        numberTooLong();
        noBlanksNeeded();
        blanks();
        bytesBesideBlanks();
        bytesBesideLetters();
        bytesBesideDigits();
        bytesBesideSigns();
        bytesBeyond127();
        keysAreNoNames();
        neitherKeyNorName();
        theEndIsNoWord();
        oneComparison();
        notInSum();
        leftToRight();
        ranks();
        notCoversComparison();
        notZeroIsTrue();
        oneOrZero();
        wrapping();
        lessAtTheEnds();
        tapeIsEmpty();
        endsTooEarly();
        moreThanAText();
        firstOfManyFaults();
        fiveBrackets();
        fiveNots();
        fiveMinuses();
        fiveOfAll();
        closedBracketsEnd();
        endedNotsEnd();
        endedMinusesEnd();
        binaryMinusIsNotOpen();
        faultAtEachPlace();
        emptyByAFault();
        emptyByAText();
        sixTexts();
        fullAheadOfAll();
        faultTakesNoNumber();
        goKnowsNoPlate();
        likeAgePrice();
        priceNow();
        waitedEatenRoom();
        firstTake();
        firstGo();
        firstGoBeyondRoom();
        forceOutside();
        forceTellsWhichWas();
        theRuleStaysByAText();
        saysOfNobody();
        saysOfNoPlate();
        saysOfNoPart();
        saysGoOfAnyPlate();
        saysOfPlatesThatAreAway();
        Due.end();
    }

    private static PlateRound empty() {
        return new PlateRound(0);
    }

    private static PlateRound seated() {
        PlateRound x = new PlateRound(0);
        x.seat(1);
        x.guest(0, 0, 0);
        x.lay(0);
        return x;
    }

    private static void fault(String text, int place) {
        Due.is("text '" + text + "'", Due.text(empty(), text), -100 - place);
    }

    private static void good(String text) {
        Due.is("text '" + text + "'", Due.text(empty(), text), 1);
    }

    private static void value(String e, long due) {
        PlateRound x = seated();
        Due.rule(x, "take " + e + ";go " + e + ";");
        Due.is("take " + e, x.says(0, 0, 0), due);
        Due.is("go " + e, x.says(0, 0, 1), due);
    }

    private static String repeated(String s, int times) {
        StringBuilder b = new StringBuilder();
        for (int i = 0; i < times; i++) {
            b.append(s);
        }
        return b.toString();
    }

    private static void tapeOf160() {
        Due.by("3: THE TAPE (160 bytes at most)");
        PlateRound x = empty();
        for (int size = 8; size <= 160; size += 8) {
            Due.is("feed(8, 0)", x.feed(8, 0), size);
        }
        for (int n = 1; n <= 8; n++) {
            Due.is("feed(" + n + ", 0)", x.feed(n, 0), FULL);
        }
        Due.is("bytes", x.count(9), 160);
    }

    private static void tapeFedBeyond160() {
        Due.by("promise 14: FULL (it changes nothing)");
        PlateRound x = empty();
        Due.feed(x, repeated(" ", 153));
        Due.is("eight at 153", x.feed(8, 0), FULL);
        Due.is("bytes", x.count(9), 153);
        Due.is("seven at 153", x.feed(7, 0x20202020202020L), 160);
        Due.is("none of the eight came", x.text(), -260);
    }

    private static void feedOutside() {
        Due.by("promise 14: BAD: n is not 1 .. 8");
        PlateRound x = empty();
        for (int n : new int[] {0, 9, -1, MIN, MAX}) {
            Due.is("feed(" + n + ", 0)", x.feed(n, 0), BAD);
        }
        Due.is("bytes", x.count(9), 0);
        Due.is("feed(1, 0)", x.feed(1, 0), 1);
        Due.is("feed(8, 0)", x.feed(8, 0), 9);
        Due.feed(x, repeated(" ", 151));
        Due.is("BAD is ahead of FULL", x.feed(0, 0), BAD);
        Due.is("BAD is ahead of FULL", x.feed(9, 0), BAD);
    }

    private static void lowestBytesFirst() {
        Due.by("promise 14: The n lowest bytes of a number, the lowest first");
        PlateRound x = empty();
        String text = "take 12;go 34;  ";
        for (int n = 1, from = 0; from < 15; from += n, n++) {
            // The bytes above the lowest n would be a fault.
            long above = n == 8 ? 0 : 0x2323232323232323L << 8 * n;
            Due.is("feed(" + n + ")", x.feed(n, Due.packed(text, from, n) | above), from + n);
        }
        Due.is("text", x.text(), 1);
        x.force(1);
        x.seat(1);
        x.guest(0, 0, 0);
        x.lay(0);
        Due.is("take", x.says(0, 0, 0), 12);
        Due.is("go", x.says(0, 0, 1), 34);
    }

    private static void feedOfNegative() {
        Due.by("promise 14: bytes of a number below 0");
        PlateRound x = empty();
        Due.is("feed(8, NO)", x.feed(8, Long.MIN_VALUE | Due.packed("take 1;", 0, 7)), 8);
        Due.is("its highest byte is 128", x.text(), -107);
        Due.is("feed(8, -1)", x.feed(8, -1), 8);
        Due.is("255 begins no token", x.text(), -100);
    }

    private static void longestText() {
        Due.by("3: a TEXT of 160 bytes");
        PlateRound x = seated();
        String text = "take 1" + repeated("+1", 74) + ";go 2;";
        Due.is("its bytes", text.length(), 160);
        Due.is("the tape", Due.feed(x, text), 160);
        Due.is("text", x.text(), 1);
        x.force(1);
        Due.is("take", x.says(0, 0, 0), 75);
        Due.is("go", x.says(0, 0, 1), 2);
        fault("take 1" + repeated("+1", 74) + ";go 2 ", 160);
        fault("take 1" + repeated("+1", 77), 160);
    }

    private static void wordsAsLongAsCanBe() {
        Due.by("3: TOKENS, each as long as can be: WORDS");
        fault("takelike" + GO, 0);
        fault("take likeage" + GO, 5);
        fault("take notlike" + GO, 5);
        fault("take like orage" + GO, 10);
        fault("take likeor age" + GO, 5);
        good("take like or age" + GO);
    }

    private static void numbersAsLongAsCanBe() {
        Due.by("3: TOKENS, each as long as can be: NUMBERS");
        fault("take 99999999" + GO, 5);
        fault("take 12345" + GO, 5);
        fault("take 1234 5" + GO, 10);
        value("1234+5", 1239);
    }

    private static void numberOfFourDigits() {
        Due.by("3: NUMBERS (4 at most)");
        value("0", 0);
        value("9999", 9999);
        value("0000", 0);
        value("0009", 9);
    }

    private static void numberTooLong() {
        Due.by("3: FAULT: a NUMBER that is too long");
        fault("take 10000" + GO, 5);
        fault("take 00000" + GO, 5);
        fault("take 1 + 00001" + GO, 9);
        fault("take 1;go 10000;", 10);
        fault("take " + repeated("9", 150), 5);
        fault("12345", 0);
    }

    private static void noBlanksNeeded() {
        Due.by("3: blanks may stand between: none has to, where a TOKEN ends without");
        good("take1;go2;");
        good("take(1)or(2)and not(3);go-1;");
        good("take 1or 2and 3<4;go 5;");
    }

    private static void blanks() {
        Due.by("3: blanks (32, 10)");
        good(" take 1 ; go 0 ; ");
        good("\ntake\n1\n;\ngo\n0\n;\n");
        good("\n \n take \n\n 1;go 0;");
        fault("ta ke 1" + GO, 0);
        fault("take 1\n2" + GO, 7);
        fault("take li\nke" + GO, 5);
    }

    private static void bytesBesideBlanks() {
        Due.by("3: FAULT: a byte that begins none (beside the blanks)");
        for (int b : new int[] {0, 9, 11, 13, 31, 33}) {
            fault("take 1" + (char) b + GO, 6);
            fault((char) b + "take 1" + GO, 0);
            fault("take 1;go 0;" + (char) b, 12);
        }
    }

    private static void bytesBesideLetters() {
        Due.by("3: WORDS (a .. z)");
        for (char c : new char[] {'`', '{', 'A', 'Z', '_'}) {
            fault("take " + c + GO, 5);
            fault("take like" + c + GO, 9);
        }
        fault("take a" + GO, 5);
        fault("take z" + GO, 5);
        fault("takea 1" + GO, 0);
        fault("takez 1" + GO, 0);
        fault("Take 1" + GO, 0);
        fault("take likE" + GO, 5);
    }

    private static void bytesBesideDigits() {
        Due.by("3: NUMBERS (digits)");
        for (char c : new char[] {'/', ':', '.', ','}) {
            fault("take " + c + GO, 5);
            fault("take 1" + c + GO, 6);
        }
        value("0+9", 9);
    }

    private static void bytesBesideSigns() {
        Due.by("3: SIGNS ( ) ; + - * < =");
        for (char c : new char[] {'\'', ',', '.', ':', '>', '?', '!', '#', '%', '&', '[', ']', '^', '|', '~', '@'}) {
            fault("take 1" + c + "2" + GO, 6);
        }
        good("take (1)+2-3*4<5" + GO);
        good("take 1=2" + GO);
        fault("take 1==2" + GO, 7);
        fault("take 1<=2" + GO, 7);
    }

    private static void bytesBeyond127() {
        Due.by("3: FAULT: a byte that begins none (128 .. 255)");
        for (int b : new int[] {127, 128, 160, 225, 255, 128 + 32, 128 + '1', 128 + 'a', 128 + ';'}) {
            fault("take 1" + (char) b + GO, 6);
        }
    }

    private static void keysAreNoNames() {
        Due.by("3: take, go, or, and, not are KEYS");
        fault("take take" + GO, 5);
        fault("take go" + GO, 5);
        fault("take or" + GO, 5);
        fault("take and" + GO, 5);
        fault("take 1 take" + GO, 7);
        fault("take 1 not" + GO, 7);
        fault("like 1" + GO, 0);
        fault("take 1;room 1;", 7);
    }

    private static void neitherKeyNorName() {
        Due.by("3: FAULT: a WORD that is neither KEY nor NAME");
        for (String word : new String[] {"lik", "likes", "ages", "ag", "wait", "eat", "prices", "rooms", "nor", "x"}) {
            fault("take " + word + GO, 5);
            fault("take 1+" + word + GO, 7);
        }
        for (String word : new String[] {"bike", "uge", "zaited", "beaten", "trice", "groom"}) {
            fault("take " + word + GO, 5);
        }
        fault("take 1 xor 2" + GO, 7);
        fault("take 1 er 2" + GO, 7);
        fault("take 1 end 2" + GO, 7);
        fault("take pot 2" + GO, 5);
        fault("give 1" + GO, 0);
        fault("cake 1" + GO, 0);
        fault("take 1;no 1;", 7);
    }

    private static void theEndIsNoWord() {
        Due.by("3: FAULT: the words of other texts");
        fault("take 1;go 1;end", 12);
        fault("take end" + GO, 5);
    }

    private static void oneComparison() {
        Due.by("3: SUM, perhaps < or = and a SUM");
        good("take 1<2" + GO);
        good("take (1<2)<3" + GO);
        good("take 1<(2<3)" + GO);
        fault("take 1<2<3" + GO, 8);
        fault("take 1=2=3" + GO, 8);
        fault("take 1<2=3" + GO, 8);
    }

    private static void notInSum() {
        Due.by("3: NOT: not NOT: a not stands in no SUM but in ( )");
        fault("take 1<not 2" + GO, 7);
        fault("take 1+not 2" + GO, 7);
        fault("take 1*not 2" + GO, 7);
        fault("take -not 2" + GO, 6);
        value("1+(not 0)", 2);
    }

    private static void leftToRight() {
        Due.by("3: SUM: TERM { + or - TERM }: more than two");
        value("9-3-2", 4);
        value("9-3+2", 8);
        value("2*3*4", 24);
        value("1-2-3-4", -8);
    }

    private static void ranks() {
        Due.by("3: E: AND { or AND }; AND: NOT { and NOT }; TERM: ONE { * ONE }");
        value("1 or 0 and 0", 1);
        value("0 and 0 or 1", 1);
        value("1+2*3", 7);
        value("2*3+1", 7);
        value("-2*3", -6);
        value("1 and 1+1=2 or 0", 1);
    }

    private static void notCoversComparison() {
        Due.by("3: not NOT, or SUM, perhaps < or = and a SUM: what a not is of");
        value("not 1=0", 1);
        value("not 5=5", 0);
        value("not 2<1", 1);
        value("not 0 and 0", 0);
        value("not not 5", 1);
    }

    private static void notZeroIsTrue() {
        Due.by("3: what is not 0 is true");
        value("-1 and -2", 1);
        value("-1 or 0", 1);
        value("not -1", 0);
        value("not 0", 1);
        value("8192*8192*64 or 0", 0);
        PlateRound x = seated();
        Due.rule(x, "take -1; go 0-5;");
        Due.is("a take below 0 is true", x.tick(1), 1);
        Due.is("a go below 0 is true", x.count(3), 0);
    }

    private static void oneOrZero() {
        Due.by("3: of or, and, not, <, = 1 or 0");
        value("5 or 7", 1);
        value("0 or 0", 0);
        value("5 and 7", 1);
        value("5 and 0", 0);
        value("not 7", 0);
        value("2<9", 1);
        value("9=9", 1);
        value("9=8", 0);
    }

    private static void wrapping() {
        Due.by("3: An E is an int (32 bits, wrapping)");
        value("8192*8192*32-1", MAX);
        value("8192*8192*32-1+1", MIN);
        value("-(8192*8192*32)", MIN);
        value("-(8192*8192*32)-1", MAX);
        value("9999*9999*9999", (int) (9999L * 9999 * 9999));
        value("8192*8192*64", 0);
        value("9999*9999*43", (int) (9999L * 9999 * 43));
    }

    private static void lessAtTheEnds() {
        Due.by("3: < of wrapping ints");
        value("8192*8192*32<0", 1);
        value("8192*8192*32<8192*8192*32-1", 1);
        value("3<3", 0);
        value("-3<-2", 1);
    }

    private static void tapeIsEmpty() {
        Due.by("3: FAULT: the text's size, if it ends too early: an empty TAPE");
        Due.is("text()", empty().text(), -100);
        fault(" ", 1);
        fault(repeated("\n", 160), 160);
    }

    private static void endsTooEarly() {
        Due.by("3: FAULT: the text's size, if it ends too early");
        String text = "take not(-like+1<2*age or price=0)and 7;go 1;";
        int[] cuts = {4, 8, 9, 10, 14, 15, 16, 17, 18, 19, 22, 25, 31, 32, 33, 34, 37, 39, 40, 42, 44};
        for (int cut : cuts) {
            fault(text.substring(0, cut), cut);
        }
        fault("take ", 5);
        fault("take 1 ; go 1 ", 14);
        good(text);
    }

    private static void moreThanAText() {
        Due.by("3: TEXT: take E ; go E ; and nothing behind it");
        fault("take 1;go 1;1", 12);
        fault("take 1;go 1; ;", 13);
        fault("take 1;go 1;take 1;go 1;", 12);
        fault("take 1;;go 1;", 7);
        fault("go 1;take 1;", 0);
        fault("take 1;take 1;", 7);
    }

    private static void firstOfManyFaults() {
        Due.by("3: FAULT: the first TOKEN that can't stand there");
        fault("take 1 2 # 99999", 7);
        fault("take 99999 # 1 2", 5);
        fault("take # 99999 x", 5);
        fault("1 take #", 0);
        fault("take 1 1 x", 7);
        fault("take ((((((x", 10);
        fault("take )#", 5);
    }

    private static void fiveBrackets() {
        Due.by("3: FAULT: a ( while 5 of these are open");
        good("take (((((1)))))" + GO);
        fault("take ((((((1))))))" + GO, 10);
        fault("take 0+(1+(2+(3+(4+(5+(6))))))" + GO, 22);
    }

    private static void fiveNots() {
        Due.by("3: FAULT: a not while 5 of these are open");
        good("take not not not not not 1" + GO);
        fault("take not not not not not not 1" + GO, 25);
        fault("take 1;go not not not not not not 1;", 30);
    }

    private static void fiveMinuses() {
        Due.by("3: FAULT: a - ahead of a ONE while 5 of these are open");
        good("take -----1" + GO);
        fault("take ------1" + GO, 10);
        fault("take 1 - - - - - - - 1" + GO, 19);
        value("1------1", 2);
    }

    private static void fiveOfAll() {
        Due.by("3: FAULT: while 5 of these are open: of all three");
        good("take not(-(-1))" + GO);
        fault("take not(-(-(1)))" + GO, 12);
        fault("take not(-(--1))" + GO, 12);
        fault("take not(-(-like(1)))" + GO, 16);
        fault("take (not(not(not 1)))" + GO, 14);
        fault("take not not(not -1)" + GO + "x", 26);
        fault("take not not(not(-1))" + GO, 17);
        fault("take not not not not not -1" + GO, 25);
        fault("take not not not not not (1)" + GO, 25);
        fault("take -----(1)" + GO, 10);
    }

    private static void closedBracketsEnd() {
        Due.by("3: a ( till its )");
        good("take (((((1)))))+(((((1)))))*(((((1)))))" + GO);
        good("take ((((1)+(1)+(1))))" + GO);
        fault("take (((((1)))))+((((((1))))))" + GO, 22);
    }

    private static void endedNotsEnd() {
        Due.by("3: not till what it belongs to ends");
        good("take not not not not not 1 and not not not not not 1 or not not not not not 1" + GO);
        good("take (not not not not 1)<(1)" + GO);
        fault("take not not not not not 1<(1)" + GO, 27);
        fault("take not not not not not 1+(1)" + GO, 27);
        fault("take not not not not not 1*-1" + GO, 27);
    }

    private static void endedMinusesEnd() {
        Due.by("3: - till what it belongs to ends");
        good("take -----1+-----1*-----1<-----1" + GO);
        good("take -(1)-(1)-(1)-(1)-(1)-(1)-(1)" + GO);
        good("take ----(1)*(((((1)))))" + GO);
    }

    private static void binaryMinusIsNotOpen() {
        Due.by("3: a - ahead of a ONE (not one between TERMS)");
        good("take 1-1-1-1-1-1-1-1" + GO);
        good("take (((((1-1-1-1)))))" + GO);
        fault("take (((((1-1--1)))))" + GO, 14);
    }

    private static void faultAtEachPlace() {
        Due.by("promise 15: -100 less the place of its FAULT: at each place");
        for (int place = 0; place < 160; place++) {
            fault(repeated(" ", place) + "#", place);
        }
    }

    private static void emptyByAFault() {
        Due.by("promise 15: THE TAPE, which is empty then (by a FAULT, too)");
        PlateRound x = empty();
        Due.is("text", Due.text(x, "take 1;go"), -109);
        Due.is("bytes", x.count(9), 0);
        Due.is("nothing of it stays", Due.text(x, " 1;"), -101);
        Due.is("a text behind it", Due.text(x, "take 1;go 1;"), 1);
    }

    private static void emptyByAText() {
        Due.by("promise 15: THE TAPE, which is empty then");
        PlateRound x = empty();
        Due.is("text", Due.text(x, "take 1;go 1;"), 1);
        Due.is("bytes", x.count(9), 0);
        Due.is("text again", x.text(), -100);
        Due.is("texts", x.count(8), 2);
    }

    private static void sixTexts() {
        Due.by("3: There are 6 TEXTS at most, TEXT 0 with them");
        PlateRound x = empty();
        Due.is("texts at first", x.count(8), 1);
        for (int text = 1; text <= 5; text++) {
            Due.is("text " + text, Due.text(x, "take 1" + GO), text);
        }
        Due.is("texts", x.count(8), 6);
        Due.is("a seventh", Due.text(x, "take 1" + GO), FULL);
        Due.is("texts", x.count(8), 6);
        Due.is("force(5)", x.force(5), 0);
        Due.is("force(6)", x.force(6), BAD);
    }

    private static void fullAheadOfAll() {
        Due.by("promise 15: FULL (ahead of all): no TEXT more has room (THE TAPE stays)");
        PlateRound x = empty();
        for (int text = 1; text <= 5; text++) {
            Due.text(x, "take 1" + GO);
        }
        Due.is("an empty tape", x.text(), FULL);
        Due.feed(x, "take #");
        Due.is("a fault", x.text(), FULL);
        Due.is("it stays", x.count(9), 6);
        Due.is("and more comes behind it", x.feed(1, 0), 7);
    }

    private static void faultTakesNoNumber() {
        Due.by("promise 15: a FAULT is no TEXT");
        PlateRound x = empty();
        for (int i = 0; i < 9; i++) {
            Due.is("a fault", Due.text(x, "take"), -104);
        }
        Due.is("texts", x.count(8), 1);
        Due.is("force(1)", x.force(1), BAD);
        Due.is("the next one is 1", Due.text(x, "take 1" + GO), 1);
    }

    private static void goKnowsNoPlate() {
        Due.by("3: (In go like, age, price are 0.)");
        PlateRound x = new PlateRound(0);
        x.seat(1);
        x.guest(0, 2, 999999);
        x.lay(0);
        x.tick(1);
        Due.rule(x, "take 0; go like+10*age+100*price;");
        Due.is("go", x.says(0, 0, 1), 0);
        x.tick(1);
        Due.is("it stays", x.count(3), 1);
    }

    private static void likeAgePrice() {
        Due.by("3: Of a GUEST and a PLATE: like: LIKING, age, price");
        PlateRound x = new PlateRound(0);
        x.seat(1);
        x.guest(0, 2, 80);
        Due.rule(x, "take like*1000*1000+age*1000+price; go 0;");
        x.lay(1);
        Due.is("take", x.says(0, 0, 0), 9000100);
        x.dish(1, 1, 60);
        x.tick(1);
        Due.is("taken a tick old", x.says(0, 0, 0), 9001100);
        x.lay(0);
        Due.is("of another plate", x.says(0, 1, 0), 1000100);
    }

    private static void priceNow() {
        Due.by("3: price: that of its COLOUR now");
        PlateRound x = seated();
        Due.rule(x, "take price; go 0;");
        x.price(0, 0);
        Due.is("0", x.says(0, 0, 0), 0);
        Due.is("at 0 it is not taken", x.tick(1), 0);
        x.price(0, 999);
        Due.is("999", x.says(0, 0, 0), 999);
        x.dish(0, 3, 20);
        x.price(3, 5);
        Due.is("of its colour as it was made", x.says(0, 0, 0), 999);
    }

    private static void waitedEatenRoom() {
        Due.by("3: waited, eaten, room");
        PlateRound x = seated();
        Due.rule(x, "take waited*1000*1000+eaten*1000+room; go 0;");
        Due.is("at first", x.says(0, 0, 0), 6);
        x.tick(1);
        Due.is("behind a plate", x.says(0, 0, 0), 1006);
        x.tick(2);
        Due.is("behind two ticks", x.says(0, 0, 0), 2001006);
    }

    private static void firstTake() {
        Due.by("3: TEXT 0: take 4 < like + waited");
        PlateRound x = new PlateRound(0);
        x.seat(1);
        x.seat(2);
        x.guest(0, 0, 4);
        x.guest(1, 0, 5);
        x.lay(0);
        Due.is("4 < 4", x.says(0, 0, 0), 0);
        Due.is("4 < 5", x.says(1, 0, 0), 1);
        Due.is("not taken at seat 0", x.tick(1), 0);
        Due.is("4 < 4 + 1", x.says(0, 0, 0), 1);
        Due.is("taken at seat 1", x.tick(1), 1);
    }

    private static void firstGo() {
        Due.by("3: TEXT 0: go room = eaten");
        PlateRound x = new PlateRound(0);
        x.seat(1);
        x.guest(0, 5, 9);
        x.lay(0);
        x.tick(1);
        Due.is("one eaten", x.count(3), 1);
        x.lay(0);
        x.tick(1);
        Due.is("two eaten, as its room", x.count(3), 0);
    }

    private static void firstGoBeyondRoom() {
        Due.by("3: TEXT 0: room = eaten: who ate more stays");
        PlateRound x = new PlateRound(0);
        x.seat(1);
        x.guest(0, 5, 9);
        Due.rule(x, "take 1; go 0;");
        for (int i = 0; i < 3; i++) {
            x.lay(0);
            x.tick(1);
        }
        x.force(0);
        x.tick(1);
        Due.is("three eaten, room 2", x.seatTold(0, 2), 3);
        Due.is("go", x.says(0, 0, 1), 0);
    }

    private static void forceOutside() {
        Due.by("promise 16: BAD");
        PlateRound x = empty();
        for (int text : new int[] {-1, 1, 5, 6, MIN, MAX}) {
            Due.is("force(" + text + ")", x.force(text), BAD);
        }
        Due.is("the rule", x.count(10), 0);
        Due.is("force(0)", x.force(0), 0);
    }

    private static void forceTellsWhichWas() {
        Due.by("promise 16: which was");
        PlateRound x = empty();
        Due.text(x, "take 1" + GO);
        Due.text(x, "take 2" + GO);
        Due.is("force(2)", x.force(2), 0);
        Due.is("force(3)", x.force(3), BAD);
        Due.is("force(2)", x.force(2), 2);
        Due.is("force(1)", x.force(1), 2);
        Due.is("force(0)", x.force(0), 1);
    }

    private static void theRuleStaysByAText() {
        Due.by("promise 16: THE RULE till then");
        PlateRound x = seated();
        Due.text(x, "take 7" + GO);
        Due.is("the rule", x.count(10), 0);
        Due.is("take of text 0", x.says(0, 0, 0), 0);
        x.force(1);
        Due.is("take of text 1", x.says(0, 0, 0), 7);
    }

    private static void saysOfNobody() {
        Due.by("promise 17: NO: none such (a GUEST)");
        PlateRound x = seated();
        x.seat(5);
        for (int seat : new int[] {-1, 1, 2, 8, MIN, MAX}) {
            Due.is("says(" + seat + ", 0, 0)", x.says(seat, 0, 0), NO);
            Due.is("says(" + seat + ", 0, 1)", x.says(seat, 0, 1), NO);
        }
        Due.is("says(0, 0, 0)", x.says(0, 0, 0), 0);
    }

    private static void saysOfNoPlate() {
        Due.by("promise 17: NO: none such (a PLATE)");
        PlateRound x = seated();
        for (int plate : new int[] {-1, 1, 300, MIN, MAX}) {
            Due.is("says(0, " + plate + ", 0)", x.says(0, plate, 0), NO);
        }
    }

    private static void saysOfNoPart() {
        Due.by("promise 17: a part (0 take, 1 go); NO: none such");
        PlateRound x = seated();
        for (int part : new int[] {-1, 2, MIN, MAX}) {
            Due.is("says(0, 0, " + part + ")", x.says(0, 0, part), NO);
        }
    }

    private static void saysGoOfAnyPlate() {
        Due.by("promise 17: (of go: any)");
        PlateRound x = seated();
        Due.rule(x, "take 1; go 42;");
        for (int plate : new int[] {0, -1, 1, 300, MIN, MAX}) {
            Due.is("says(0, " + plate + ", 1)", x.says(0, plate, 1), 42);
        }
    }

    private static void saysOfPlatesThatAreAway() {
        Due.by("promise 17: of a PLATE that is on the BELT no more");
        PlateRound x = seated();
        Due.rule(x, "take 10+like; go 0;");
        x.gone(0);
        Due.is("gone", x.says(0, 0, 0), 10);
        Due.is("its liking", x.liking(0, 0), 0);
    }
}
