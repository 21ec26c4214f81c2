/** Promises 14 to 17: the tape, texts and their faults, the rule, what it says. */
public final class TextTest {
    public static void main(String[] args) {
        feeding();
        fullTape();
        sixTexts();
        forcing();
        goodTexts();
        faults();
        nearWords();
        behindFaults();
        opened();
        deepest();
        values();
        names();
        wrapping();
        firstText();
        saysRefused();
        Due.end();
    }

    private static void feeding() {
        PlateRound x = new PlateRound(0);
        Due.is("feed(0)", x.feed(0, 1), PlateRound.BAD);
        Due.is("feed(9)", x.feed(9, 1), PlateRound.BAD);
        Due.is("feed(-1)", x.feed(-1, 1), PlateRound.BAD);
        Due.is("count(9)", x.count(9), 0);
        Due.is("the lowest byte alone", x.feed(1, 0x7a7a7a7a7a7a7a00L | 't'), 1);
        Due.is("two bytes", x.feed(2, 0x6b61), 3);
        Due.is("one byte", x.feed(1, 'e'), 4);
        Due.is("eight bytes", x.feed(8, Due.packed(" 1 ; go ", 0, 8)), 12);
        Due.is("three bytes", x.feed(3, Due.packed("0 ;", 0, 3)), 15);
        Due.is("count(9)", x.count(9), 15);
        Due.is("text", x.text(), 1);
        Due.is("the tape is empty", x.count(9), 0);
        Due.is("a negative number", x.feed(8, -1), 8);
        Due.is("a byte 255", x.text(), -100);
        Due.is("the tape is empty", x.count(9), 0);
    }

    private static void fullTape() {
        PlateRound x = new PlateRound(0);
        String text = "take 1;go 0;";
        while (text.length() < 159) {
            text = " " + text;
        }
        Due.is("159 bytes", Due.feed(x, text), 159);
        Due.is("two more", x.feed(2, 0x2020), PlateRound.FULL);
        Due.is("BAD is ahead of FULL", x.feed(0, 0x2020), PlateRound.BAD);
        Due.is("159 still", x.count(9), 159);
        Due.is("one more", x.feed(1, 10), 160);
        Due.is("none more", x.feed(1, 10), PlateRound.FULL);
        Due.is("a text", x.text(), 1);
        String ones = "take 0";
        while (ones.length() < 152) {
            ones += "+1";
        }
        Due.is("a long sum", Due.text(x, ones + ";go 10;"), 2);
        x.force(2);
        x.seat(1);
        x.guest(0, 0, 0);
        x.lay(0);
        Due.is("the long sum", x.says(0, 0, 0), 73);
        Due.is("of go", x.says(0, 0, 1), 10);
    }

    private static void sixTexts() {
        PlateRound x = new PlateRound(0);
        for (int i = 1; i <= 5; i++) {
            Due.is("text " + i, Due.text(x, "take " + i + ";go 0;"), i);
            Due.is("texts", x.count(8), i + 1);
            if (i < 5) {
                Due.is("a fault takes no room", Due.text(x, "take"), -104);
            }
        }
        Due.feed(x, "no text");
        Due.is("no room", x.text(), PlateRound.FULL);
        Due.is("the tape stays", x.count(9), 7);
        Due.is("and stays", x.feed(1, 0), 8);
        Due.is("no room", x.text(), PlateRound.FULL);
        x.seat(1);
        x.guest(0, 0, 0);
        x.lay(0);
        for (int i = 1; i <= 5; i++) {
            Due.is("force", x.force(i), i - 1);
            Due.is("text " + i + " says", x.says(0, 0, 0), i);
        }
    }

    private static void forcing() {
        PlateRound x = new PlateRound(0);
        Due.is("force(1)", x.force(1), PlateRound.BAD);
        Due.is("force(-1)", x.force(-1), PlateRound.BAD);
        Due.is("force(6)", x.force(6), PlateRound.BAD);
        Due.is("force(0)", x.force(0), 0);
        Due.text(x, "take 1;go 0;");
        Due.is("a text is no rule till it is forced", x.count(10), 0);
        Due.is("force(1)", x.force(1), 0);
        Due.is("force(2)", x.force(2), PlateRound.BAD);
        Due.is("the rule", x.count(10), 1);
        Due.is("force(0)", x.force(0), 1);
    }

    private static void goodTexts() {
        String[] good = {
            "take 1;go 1;", "take1;go1;", " \n take\n1\n;\ngo 1 ;\n ", "take like;go like;",
            "take 0000;go 9999;", "take 1or 2;go 1and 2;", "take not 1;go not not not 1;",
            "take 1<2;go 1=2;", "take not 1<2 or 3=4 and not 5;go 1;", "take (1<2)<3;go 1;",
            "take -1;go --1;", "take 1--1;go 1---1;", "take 1*-1;go -1*-1;", "take -(1);go (-1);",
            "take(((((1)))));go 1;", "take 12age;go 1;",
        };
        PlateRound x = null;
        for (int i = 0; i < good.length; i++) {
            if (i % 5 == 0) {
                x = new PlateRound(0);
            }
            if (!good[i].equals("take 12age;go 1;")) {
                Due.is("text " + good[i], Due.text(x, good[i]), i % 5 + 1);
            } else {
                Due.is("text " + good[i], Due.text(x, good[i]), -107);
            }
        }
    }

    private static void fault(PlateRound x, String text, int place) {
        Due.is("text '" + text + "'", Due.text(x, text), -100 - place);
        Due.is("the tape is empty", x.count(9), 0);
    }

    private static void faults() {
        PlateRound x = new PlateRound(0);
        fault(x, "", 0);
        fault(x, "  \n ", 4);
        fault(x, "go 1;take 1;", 0);
        fault(x, " taker 1;go 1;", 1);
        fault(x, "take", 4);
        fault(x, "take  ", 6);
        fault(x, "take ;go 1;", 5);
        fault(x, "take 1", 6);
        fault(x, "take 1 go 1;", 7);
        fault(x, "take 1;", 7);
        fault(x, "take 1;take 1;", 7);
        fault(x, "take 1;go", 9);
        fault(x, "take 1;go 1", 11);
        fault(x, "take 1;go 1 ", 12);
        fault(x, "take 1;go 1;;", 12);
        fault(x, "take 1;go 1; take", 13);
        fault(x, "take 1;go 1;\t", 12);
        fault(x, "take 1 2;go 1;", 7);
        fault(x, "take 1<2<3;go 1;", 8);
        fault(x, "take 1=2<3;go 1;", 8);
        fault(x, "take 1<not 2;go 1;", 7);
        fault(x, "take 1+not 2;go 1;", 7);
        fault(x, "take 1*;go 1;", 7);
        fault(x, "take *1;go 1;", 5);
        fault(x, "take +1;go 1;", 5);
        fault(x, "take 1+ +1;go 1;", 8);
        fault(x, "take 1 and;go 1;", 10);
        fault(x, "take or 1;go 1;", 5);
        fault(x, "take 1 or or 1;go 1;", 10);
        fault(x, "take (1;go 1;", 7);
        fault(x, "take 1);go 1;", 6);
        fault(x, "take ();go 1;", 6);
        fault(x, "take 10000;go 1;", 5);
        fault(x, "take 1 + 00001;go 1;", 9);
        fault(x, "take 1 + 99999999999999999999;go 1;", 9);
        fault(x, "take likes;go 1;", 5);
        fault(x, "take lik;go 1;", 5);
        fault(x, "take Like;go 1;", 5);
        fault(x, "take like age;go 1;", 10);
        fault(x, "take notlike;go 1;", 5);
        fault(x, "take 1 # 2;go 1;", 7);
        fault(x, "take 1\t+ 2;go 1;", 6);
        fault(x, "take go;go 1;", 5);
        fault(x, "take take;go 1;", 5);
        fault(x, "take 1;go like like", 15);
        fault(x, "take 1" + (char) 160 + ";go 1;", 6);
        fault(x, "take 1" + (char) 0 + ";go 1;", 6);
        fault(x, "take 1 > 2;go 1;", 7);
        fault(x, "take 1 / 2;go 1;", 7);
        Due.is("no text came of it", x.count(8), 1);
    }

    // A word with another letter in it, one more or one less is another word.
    private static void nearWords() {
        String[] words = {"take", "go", "or", "and", "not", "like", "age", "waited", "eaten", "price", "room"};
        for (String word : words) {
            PlateRound x = new PlateRound(0);
            for (int i = 0; i < word.length(); i++) {
                nearWord(x, word, word.substring(0, i) + "z" + word.substring(i + 1));
            }
            nearWord(x, word, word + "z");
            nearWord(x, word, "z" + word);
            nearWord(x, word, word + word);
            nearWord(x, word, word.substring(1));
            nearWord(x, word, word.substring(0, word.length() - 1));
        }
    }

    private static void nearWord(PlateRound x, String word, String near) {
        switch (word) {
            case "take": fault(x, near + " 1;go 1;", 0); break;
            case "go": fault(x, "take 1;" + near + " 1;", 7); break;
            case "or": case "and": fault(x, "take 1 " + near + " 2;go 1;", 7); break;
            case "not": fault(x, "take " + near + " 1;go 1;", 5); break;
            default: fault(x, "take " + near + ";go 1;", 5); break;
        }
    }

    private static void behindFaults() {
        PlateRound x = new PlateRound(0);
        for (int i = 0; i < 10; i++) {
            fault(x, "take 1+2*3-4 or not 5 and 6<7;go 1+2*3-4 or not 5 and 6<7", 57);
        }
        x.seat(1);
        x.guest(0, 0, 0);
        x.lay(0);
        for (int i = 1; i <= 5; i++) {
            Due.is("text " + i, Due.text(x, "take 10-" + i + "*2;go -" + i + "*" + i + "-1;"), i);
            x.force(i);
            Due.is("take of text " + i, x.says(0, 0, 0), 10 - i * 2);
            Due.is("go of text " + i, x.says(0, 0, 1), -i * i - 1);
        }
    }

    private static void opened() {
        PlateRound x = new PlateRound(0);
        fault(x, "take ((((((1))))));go 1;", 10);
        fault(x, "take not not not not not not 1;go 1;", 25);
        fault(x, "take ------1;go 1;", 10);
        fault(x, "take not(-(-( 1)));go 1;", 12);
        fault(x, "take not(-(-(", 12);
        fault(x, "take (not (not (- 1;go 1;", 16);
        fault(x, "take (not (not - -1;go 1;", 17);
        fault(x, "take (not (not (not 1;go 1;", 16);
        fault(x, "take not not not not not (1);go 1;", 25);
        fault(x, "take not not not not not 1 + -1;go 1;", 29);
        fault(x, "take not not not not not 1 < (1);go 1;", 29);
        fault(x, "take ((((((", 10);
        Due.is("five", Due.text(x, "take (((((1)))));go not not not not not 1;"), 1);
        Due.is("ended ones are not open", Due.text(x, "take -----1 + -----1 - -----1 * -----1;go 1;"), 2);
        Due.is("ended by and", Due.text(x, "take not not not not not 1 and not not not not not 1;go 1;"), 3);
        Due.is("ended by or", Due.text(x, "take not not not not not 1 or -----1;go (1)*(1)+(1)*(1)+(1)*(1);"), 4);
        Due.is("a sign between is none", Due.text(x, "take (((((1-1-1-1)))));go 1;"), 5);
    }

    private static void deepest() {
        PlateRound x = new PlateRound(0);
        String deep = "take ";
        for (int i = 0; i < 150; i++) {
            deep += i % 2 == 0 ? "(" : "-";
        }
        fault(x, deep, 10);
        String nots = "take ";
        for (int i = 0; i < 38; i++) {
            nots += "not ";
        }
        fault(x, nots, 25);
        String level = "0 or 1 and 3 = 1 + 2 * (";
        String five = level + level + level + level + level + "1";
        Due.is("five levels of all", Due.text(x, "take " + five + ")))));go 1;"), 1);
        x.force(1);
        x.seat(1);
        x.guest(0, 0, 0);
        x.lay(0);
        Due.is("their value", x.says(0, 0, 0), 1);
        fault(x, "take " + five + "))));go 1;", 5 + five.length() + 4);
        fault(x, "take " + five + "))))));go 1;", 5 + five.length() + 5);
        fault(x, "take " + five + " and (1))))));go 1;", 5 + five.length() + 5);
    }

    private static PlateRound ruled(String text) {
        PlateRound x = new PlateRound(0);
        x.seat(1);
        x.guest(0, 0, 0);
        x.lay(0);
        Due.rule(x, text);
        return x;
    }

    private static void value(String e, int due) {
        PlateRound x = ruled("take " + e + ";go 0;");
        Due.is("take " + e, x.says(0, 0, 0), due);
        PlateRound y = ruled("take 0;go " + e + ";");
        Due.is("go " + e, y.says(0, 0, 1), due);
        Due.is("take 0", y.says(0, 0, 0), 0);
    }

    private static void values() {
        value("9999", 9999);
        value("0010", 10);
        value("1+2*3", 7);
        value("(1+2)*3", 9);
        value("10-3-2", 5);
        value("10-(3-2)", 9);
        value("-2*3", -6);
        value("2*-3", -6);
        value("-2+3", 1);
        value("--5", 5);
        value("1---1", 0);
        value("-(1+2)", -3);
        value("1<2", 1);
        value("2<1", 0);
        value("1<1", 0);
        value("-1<0", 1);
        value("2=2", 1);
        value("2=3", 0);
        value("1+1=2", 1);
        value("1+1<2+1", 1);
        value("not 0", 1);
        value("not 7", 0);
        value("not -7", 0);
        value("not not 7", 1);
        value("not 1 = 0", 1);
        value("(not 1) = 0", 1);
        value("not 2 = 2", 0);
        value("not 0 + 1", 0);
        value("5 and 7", 1);
        value("5 and 0", 0);
        value("0 and 5", 0);
        value("0 and 0", 0);
        value("0 or 7", 1);
        value("7 or 0", 1);
        value("7 or 7", 1);
        value("0 or 0", 0);
        value("-1 or 0", 1);
        value("-1 and -1", 1);
        value("1 or 0 and 0", 1);
        value("(1 or 0) and 0", 0);
        value("0 and 0 or 1", 1);
        value("not 0 and 0", 0);
        value("not (0 and 0)", 1);
        value("1 < 2 and 2 < 3", 1);
        value("1 < 2 and 3 < 2", 0);
        value("0 or 0 or 3", 1);
        value("1 and 1 and 0", 0);
        value("2*3*4", 24);
        value("1 - 2 + 3", 2);
        value("(1<2)<3", 1);
        value("(3<2)=0", 1);
        value("2-1*3", -1);
        value("3*2-1", 5);
    }

    private static void names() {
        PlateRound x = new PlateRound(0);
        x.seat(1);
        x.seat(2);
        x.price(2, 345);
        x.dish(2, 2, 60);
        String[] names = {"like", "age", "waited", "eaten", "price"};
        for (int i = 0; i < names.length; i++) {
            Due.is("text", Due.text(x, "take " + names[i] + "; go " + names[i] + ";"), i + 1);
        }
        x.force(1);
        x.guest(0, 4, 900900);
        x.guest(1, 1, 0);
        x.lay(2);
        x.gone(0);
        x.lay(2);
        x.force(4);
        x.tick(6);
        int[] take = {11, 6, 6, 0, 345};
        int[] go = {0, 0, 6, 0, 0};
        for (int i = 0; i < names.length; i++) {
            x.force(i + 1);
            Due.is("take " + names[i], x.says(0, 1, 0), take[i]);
            Due.is("go " + names[i], x.says(0, 1, 1), go[i]);
            Due.is("go of any plate", x.says(0, 9999, 1), go[i]);
        }
        x.force(1);
        Due.is("of a child", x.says(1, 1, 0), 0);
        Due.is("of a plate that is gone", x.says(0, 0, 0), 11);
        x.price(2, 9);
        x.force(5);
        Due.is("the price now", x.says(0, 1, 0), 9);
        x.dish(2, 0, 60);
        Due.is("the plate's colour", x.says(0, 1, 0), 9);
    }

    private static void wrapping() {
        value("9999*9999*9999", (int) (9999L * 9999 * 9999));
        value("9999*9999*22", (int) (9999L * 9999 * 22));
        value("-(8192*8192*32)", Integer.MIN_VALUE);
        value("8192*8192*32", Integer.MIN_VALUE);
        value("8192*8192*32-1", Integer.MAX_VALUE);
        value("8192*8192*32-1+1", Integer.MIN_VALUE);
        value("8192*8192*32<0", 1);
        value("8192*8192*64", 0);
    }

    private static void firstText() {
        PlateRound x = new PlateRound(0);
        x.seat(2);
        x.guest(0, 0, 3);
        x.lay(0);
        Due.is("4 < 3 + 0", x.says(0, 0, 0), 0);
        x.tick(1);
        Due.is("4 < 3 + 1", x.says(0, 0, 0), 0);
        x.tick(1);
        Due.is("it is not taken", x.at(2), 0);
        Due.is("4 < 3 + 2", x.says(0, 0, 0), 1);
        Due.is("room = eaten", x.says(0, 0, 1), 0);
        for (int i = 0; i < 6; i++) {
            Due.is("a guest eats", x.seatTold(0, 2), i);
            x.order(0, 0);
            x.tick(3);
        }
        Due.is("and leaves", x.seatTold(0, 2), -1);
        Due.is("and pays", x.count(7), 600);
    }

    private static void saysRefused() {
        PlateRound x = ruled("take 7;go 8;");
        x.seat(2);
        Due.is("take", x.says(0, 0, 0), 7);
        Due.is("go", x.says(0, 0, 1), 8);
        Due.is("go, any plate", x.says(0, -5, 1), 8);
        Due.is("no such plate", x.says(0, 1, 0), PlateRound.NO);
        Due.is("no such plate", x.says(0, -1, 0), PlateRound.NO);
        Due.is("nobody", x.says(1, 0, 0), PlateRound.NO);
        Due.is("nobody", x.says(1, 0, 1), PlateRound.NO);
        Due.is("no such seat", x.says(2, 0, 1), PlateRound.NO);
        Due.is("no such seat", x.says(-1, 0, 1), PlateRound.NO);
        Due.is("no such part", x.says(0, 0, 2), PlateRound.NO);
        Due.is("no such part", x.says(0, 0, -1), PlateRound.NO);
    }
}
