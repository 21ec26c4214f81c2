/**
 * Part 1 of the terms and promises 1 to 7, 21 and 27: a test for each sentence that names an edge.
 * Due.by() has the sentence's words.
 */
public final class EdgesOfBeltTest {
    private static final int MIN = Integer.MIN_VALUE, MAX = Integer.MAX_VALUE;
    private static final int BAD = PlateRound.BAD, NONE = PlateRound.NONE, STATE = PlateRound.STATE, FULL = PlateRound.FULL;

    public static void main(String[] args) {
        placesOfABelt();
        newBelt();
        lastPlaceToHatch();
        dishNumbers();
        colourNumbers();
        firstColours();
        limitNumbers();
        leastLimit();
        greatestLimit();
        firstLimit();
        priceNumbers();
        greatestPrice();
        leastPrice();
        firstPrices();
        threeHundredLaid();
        threeHundredWithTrays();
        platesNumberedFromZero();
        colourAsItWasMade();
        ageAtFirst();
        olderThanItsLimit();
        olderButNotAtTheHatch();
        limitOfItsDishNow();
        dishTellsTheColourTillThen();
        layBad();
        layState();
        layStateBehindGone();
        plateNumbers();
        plateWhats();
        plateOfWaitingTray();
        plateOnNoBill();
        atEmpty();
        atOutside();
        goneOutside();
        goneOfNone();
        goneTwice();
        missingAreTheGone();
        traysThatWaitAreOnTrays();
        emptiesOutside();
        countOutside();
        countsOfANewOne();
        Due.end();
    }

    private static void placesOfABelt() {
        Due.by("1: n being 6 and the constructor's number modulo 7 (from 0)");
        int[] numbers = {-15, -14, -8, -7, -6, -1, 0, 1, 5, 6, 7, 8, 13, 14, 15, MIN, MIN + 1, MAX, MAX - 1};
        int[] places = {12, 6, 12, 6, 7, 12, 6, 7, 11, 12, 6, 7, 12, 6, 7, 11, 12, 7, 6};
        for (int i = 0; i < numbers.length; i++) {
            Due.is("count(0) of " + numbers[i], new PlateRound(numbers[i]).count(0), places[i]);
        }
    }

    private static void newBelt() {
        Due.by("promise 1: An empty BELT, no SEATS");
        for (int number = 0; number < 7; number++) {
            PlateRound x = new PlateRound(number);
            for (int place = 0; place < 6 + number; place++) {
                Due.is("at(" + place + ")", x.at(place), NONE);
                Due.is("gone(" + place + ")", x.gone(place), STATE);
            }
            Due.is("seats", x.count(2), 0);
            Due.is("seatTold(0, 0)", x.seatTold(0, 0), BAD);
            Due.is("the first lay", x.lay(0), 0);
        }
    }

    private static void lastPlaceToHatch() {
        Due.by("4 (1): from the last one to the HATCH");
        for (int number = 0; number < 7; number++) {
            PlateRound x = new PlateRound(number);
            int last = 5 + number;
            x.lay(0);
            x.tick(last);
            Due.is("at the last place", x.at(last), 0);
            Due.is("not at the hatch", x.at(0), NONE);
            x.tick(1);
            Due.is("at the hatch", x.at(0), 0);
            Due.is("not at the last place", x.at(last), NONE);
        }
    }

    private static void dishNumbers() {
        Due.by("1: DISHES 0 .. 5");
        for (int dish : new int[] {-1, 6, MIN, MAX}) {
            PlateRound x = seated();
            Due.is("dish(" + dish + ", 0, 1)", x.dish(dish, 0, 1), BAD);
            Due.is("lay(" + dish + ")", x.lay(dish), BAD);
            Due.is("order(0, " + dish + ")", x.order(0, dish), BAD);
        }
        for (int dish = 0; dish <= 5; dish++) {
            PlateRound x = seated();
            Due.is("dish(" + dish + ", 0, 1)", x.dish(dish, 0, 1), dish % 5);
            Due.is("lay(" + dish + ")", x.lay(dish), 0);
            Due.is("order(0, " + dish + ")", x.order(0, dish), 1);
            Due.is("its dish", x.plate(0, 0), dish);
            Due.is("its dish", x.plate(1, 0), dish);
        }
    }

    private static PlateRound seated() {
        PlateRound x = new PlateRound(0);
        x.seat(3);
        x.guest(0, 0, 0);
        return x;
    }

    private static void colourNumbers() {
        Due.by("1: a COLOUR (0 .. 4");
        PlateRound x = new PlateRound(0);
        for (int colour : new int[] {-1, 5, MIN, MAX}) {
            Due.is("dish(1, " + colour + ", 9)", x.dish(1, colour, 9), BAD);
            Due.is("price(" + colour + ", 9)", x.price(colour, 9), BAD);
            Due.is("empties(" + colour + ", 0)", x.empties(colour, 0), BAD);
        }
        Due.is("dish(1, 0, 9)", x.dish(1, 0, 9), 1);
        Due.is("dish(1, 4, 9)", x.dish(1, 4, 9), 0);
        Due.is("dish(1, 4, 9)", x.dish(1, 4, 9), 4);
        for (int colour : new int[] {0, 4}) {
            Due.is("price(" + colour + ", 9)", x.price(colour, 9), 100);
            Due.is("empties(" + colour + ", 0)", x.empties(colour, 0), 0);
        }
    }

    private static void firstColours() {
        Due.by("1: its number modulo 5 at first");
        int[] due = {0, 1, 2, 3, 4, 0};
        for (int dish = 0; dish < 6; dish++) {
            PlateRound x = new PlateRound(0);
            x.lay(dish);
            Due.is("colour of a plate of dish " + dish, x.plate(0, 1), due[dish]);
            Due.is("dish(" + dish + ", 3, 3)", x.dish(dish, 3, 3), due[dish]);
        }
    }

    private static void limitNumbers() {
        Due.by("1: a LIMIT (1 .. 60");
        PlateRound x = new PlateRound(0);
        for (int limit : new int[] {0, 61, -1, MIN, MAX}) {
            Due.is("dish(2, 1, " + limit + ")", x.dish(2, 1, limit), BAD);
        }
        Due.is("dish(2, 1, 1)", x.dish(2, 1, 1), 2);
        Due.is("dish(2, 3, 60)", x.dish(2, 3, 60), 1);
        Due.is("dish(2, 3, 60)", x.dish(2, 3, 60), 3);
    }

    private static void leastLimit() {
        Due.by("1: a LIMIT of 1");
        PlateRound x = new PlateRound(0);
        x.dish(0, 0, 1);
        x.lay(0);
        x.tick(5);
        Due.is("it rides", x.plate(0, 3), 0);
        x.tick(1);
        Due.is("it is thrown", x.plate(0, 3), 4);
    }

    private static void greatestLimit() {
        Due.by("1: a LIMIT of 60");
        PlateRound x = new PlateRound(0);
        x.dish(0, 0, 60);
        x.lay(0);
        x.tick(60);
        Due.is("60 old at the hatch", x.at(0), 0);
        x.tick(5);
        Due.is("65 old it rides", x.at(5), 0);
        x.tick(1);
        Due.is("66 old it is thrown", x.plate(0, 3), 4);
    }

    private static void firstLimit() {
        Due.by("1: a LIMIT (20 at first)");
        for (int dish = 0; dish < 6; dish++) {
            PlateRound x = new PlateRound(4);
            x.lay(dish);
            x.tick(20);
            Due.is("20 old at the hatch, dish " + dish, x.at(0), 0);
            PlateRound y = new PlateRound(1);
            y.lay(dish);
            y.tick(21);
            Due.is("21 old at the hatch, dish " + dish, y.at(0), NONE);
            Due.is("thrown, dish " + dish, y.plate(0, 3), 4);
        }
    }

    private static void priceNumbers() {
        Due.by("1: a PRICE (0 .. 999");
        PlateRound x = new PlateRound(0);
        for (int price : new int[] {-1, 1000, MIN, MAX}) {
            Due.is("price(3, " + price + ")", x.price(3, price), BAD);
        }
        Due.is("price(3, 0)", x.price(3, 0), 100);
        Due.is("price(3, 999)", x.price(3, 999), 0);
        Due.is("price(3, 999)", x.price(3, 999), 999);
    }

    private static void greatestPrice() {
        Due.by("1: a PRICE of 999");
        PlateRound x = fed(999);
        Due.is("the bill", x.seatTold(0, 6), 999);
        x.tick(1);
        Due.is("takings", x.count(7), 999);
    }

    private static void leastPrice() {
        Due.by("1: a PRICE of 0");
        PlateRound x = fed(0);
        Due.is("the bill", x.seatTold(0, 6), 0);
        Due.is("plates on it", x.seatTold(0, 5), 1);
        x.tick(1);
        Due.is("takings", x.count(7), 0);
        Due.is("it is paid", x.plate(0, 3), 3);
    }

    // A guest has eaten a plate of a price, and goes in the next tick.
    private static PlateRound fed(int price) {
        PlateRound x = new PlateRound(0);
        x.seat(1);
        x.guest(0, 0, 0);
        Due.rule(x, "take 1; go waited;");
        x.price(0, price);
        x.lay(0);
        x.tick(1);
        return x;
    }

    private static void firstPrices() {
        Due.by("1: a PRICE (100 at first)");
        PlateRound x = new PlateRound(0);
        for (int colour = 0; colour < 5; colour++) {
            Due.is("price(" + colour + ", 1)", x.price(colour, 1), 100);
        }
    }

    private static void threeHundredLaid() {
        Due.by("1: PLATES (300 at most); promise 4: FULL");
        PlateRound x = withPlates(299);
        Due.is("the last one", x.lay(1), 299);
        x.gone(0);
        Due.is("one more", x.lay(1), FULL);
        Due.is("plates", x.count(1), 300);
        Due.is("the hatch stays free", x.at(0), NONE);
        Due.is("its number", x.plate(299, 0), 1);
        Due.is("none behind it", x.plate(300, 0), BAD);
    }

    // All are thrown as they come to the hatch, so that it is free for each; the belt is empty then.
    private static PlateRound withPlates(int number) {
        PlateRound x = new PlateRound(0);
        x.dish(0, 0, 1);
        x.sheet(0, 0, 24);
        for (int made = 0; made < number; made += 24) {
            int n = Math.min(24, number - made);
            Due.is("lays", x.lays(0, 0, 0, n), n);
        }
        x.tick(6);
        Due.is("plates", x.count(1), number);
        return x;
    }

    private static void threeHundredWithTrays() {
        Due.by("promise 19: FULL: 300 PLATES");
        PlateRound x = withPlates(298);
        x.seat(2);
        x.guest(0, 0, 0);
        Due.is("a tray", x.order(0, 5), 298);
        Due.is("the last one", x.order(0, 5), 299);
        Due.is("one more", x.order(0, 5), FULL);
        Due.is("laid", x.lay(5), FULL);
        Due.is("trays that wait", x.count(6), 2);
        Due.is("plates", x.count(1), 300);
    }

    private static void platesNumberedFromZero() {
        Due.by("1: numbered from 0 as they are made");
        PlateRound x = seated();
        Due.is("laid", x.lay(3), 0);
        Due.is("on a tray", x.order(0, 2), 1);
        Due.is("gone", x.gone(0), 0);
        Due.is("laid", x.lay(1), 2);
        Due.is("refused", x.lay(1), STATE);
        Due.is("on a tray", x.order(0, 4), 3);
    }

    private static void colourAsItWasMade() {
        Due.by("1: a DISH (its COLOUR as it was made)");
        PlateRound x = seated();
        x.lay(1);
        x.order(0, 1);
        x.dish(1, 4, 20);
        Due.is("of the first", x.plate(0, 1), 1);
        Due.is("of the tray's", x.plate(1, 1), 1);
        x.gone(0);
        x.lay(1);
        Due.is("of one made behind it", x.plate(2, 1), 4);
        Due.is("empties(1, 0)", x.empties(1, 0), 2);
        Due.is("empties(4, 0)", x.empties(4, 0), 1);
    }

    private static void ageAtFirst() {
        Due.by("1: an AGE (0 at first)");
        PlateRound x = seated();
        x.tick(3);
        x.lay(1);
        x.order(0, 1);
        Due.is("of a laid one", x.plate(0, 2), 0);
        Due.is("of a tray's", x.plate(1, 2), 0);
        x.tick(1);
        Due.is("a tick later", x.plate(0, 2), 1);
    }

    private static void olderThanItsLimit() {
        Due.by("4 (2): One at the HATCH that is older than its DISH's LIMIT is THROWN");
        for (int limit = 11; limit <= 13; limit++) {
            PlateRound x = new PlateRound(6);
            x.dish(3, 3, limit);
            x.lay(3);
            x.tick(12);
            Due.is("12 old, limit " + limit, x.plate(0, 3), limit < 12 ? 4 : 0);
            Due.is("at the hatch", x.at(0), limit < 12 ? NONE : 0);
            Due.is("its age", x.plate(0, 2), 12);
        }
    }

    private static void olderButNotAtTheHatch() {
        Due.by("4 (2): One at the HATCH");
        PlateRound x = new PlateRound(6);
        x.dish(3, 3, 1);
        x.lay(3);
        for (int age = 1; age < 12; age++) {
            x.tick(1);
            Due.is("it rides, " + age + " old", x.at(age), 0);
        }
        x.tick(1);
        Due.is("thrown", x.plate(0, 3), 4);
    }

    private static void limitOfItsDishNow() {
        Due.by("4 (2): its DISH's LIMIT, as it is then");
        PlateRound x = new PlateRound(0);
        x.dish(5, 3, 5);
        x.dish(3, 3, 60);
        x.lay(5);
        x.dish(5, 0, 5);
        x.tick(6);
        Due.is("of its dish, not of its colour", x.plate(0, 3), 4);
        x.dish(2, 2, 1);
        x.lay(2);
        x.dish(2, 2, 60);
        x.tick(6);
        Due.is("told a greater one", x.plate(1, 3), 0);
    }

    private static void dishTellsTheColourTillThen() {
        Due.by("promise 2: its COLOUR till then. BAD (it changes nothing)");
        PlateRound x = new PlateRound(0);
        Due.is("dish(4, 2, 7)", x.dish(4, 2, 7), 4);
        Due.is("a bad limit", x.dish(4, 1, 0), BAD);
        Due.is("a bad colour", x.dish(4, 5, 60), BAD);
        Due.is("its colour stands", x.dish(4, 2, 5), 2);
        Due.is("a bad limit", x.dish(4, 2, 61), BAD);
        x.lay(4);
        x.tick(6);
        Due.is("its limit stands", x.plate(0, 3), 4);
    }

    private static void layBad() {
        Due.by("promise 4: BAD (ahead of STATE and FULL)");
        PlateRound x = new PlateRound(0);
        Due.is("lay(6) at a free hatch", x.lay(6), BAD);
        x.lay(0);
        Due.is("lay(6) at a plate", x.lay(6), BAD);
        Due.is("lay(-1) at a plate", x.lay(-1), BAD);
        PlateRound y = withPlates(300);
        Due.is("lay(6) beyond 300", y.lay(6), BAD);
    }

    private static void layState() {
        Due.by("promise 4: STATE: there is one (ahead of FULL)");
        PlateRound x = new PlateRound(0);
        x.lay(0);
        Due.is("at a plate", x.lay(0), STATE);
        x.tick(1);
        Due.is("it went on", x.lay(0), 1);
        x.tick(5);
        Due.is("it came round", x.lay(0), STATE);
        PlateRound y = withPlates(299);
        Due.is("the last one", y.lay(0), 299);
        Due.is("at the last one", y.lay(0), STATE);
    }

    private static void layStateBehindGone() {
        Due.by("promise 4: STATE: there is one, till it is GONE or THROWN");
        PlateRound x = new PlateRound(0);
        x.lay(0);
        x.gone(0);
        Due.is("it is gone", x.lay(0), 1);
        x.dish(0, 0, 1);
        x.tick(6);
        Due.is("it is thrown", x.lay(0), 2);
    }

    private static void plateNumbers() {
        Due.by("promise 5: BAD (a PLATE that there is not)");
        PlateRound x = new PlateRound(0);
        Due.is("of none", x.plate(0, 0), BAD);
        x.lay(5);
        Due.is("the first", x.plate(0, 0), 5);
        for (int plate : new int[] {-1, 1, 299, 300, MIN, MAX}) {
            Due.is("plate(" + plate + ", 0)", x.plate(plate, 0), BAD);
        }
    }

    private static void plateWhats() {
        Due.by("promise 5: 0 .. 4. BAD");
        PlateRound x = new PlateRound(0);
        x.lay(5);
        for (int what : new int[] {-1, 5, MIN, MAX}) {
            Due.is("plate(0, " + what + ")", x.plate(0, what), BAD);
        }
        Due.is("plate(0, 0)", x.plate(0, 0), 5);
        Due.is("plate(0, 4)", x.plate(0, 4), 0);
    }

    private static void plateOfWaitingTray() {
        Due.by("promise 5: LANE's cell (NONE: it waits)");
        PlateRound x = seated();
        x.order(0, 0);
        Due.is("it waits", x.plate(0, 4), NONE);
        Due.is("on a tray", x.plate(0, 3), 1);
        x.tick(1);
        Due.is("in cell 0", x.plate(0, 4), 0);
        Due.is("on a tray", x.plate(0, 3), 1);
    }

    private static void plateOnNoBill() {
        Due.by("promise 5: (NONE: PAID, THROWN, GONE)");
        PlateRound x = fed(5);
        Due.is("on the bill", x.plate(0, 4), 0);
        x.tick(1);
        Due.is("paid", x.plate(0, 3), 3);
        Due.is("paid", x.plate(0, 4), NONE);
        x.lay(1);
        x.tick(1);
        x.gone(1);
        Due.is("gone", x.plate(1, 3), 5);
        Due.is("gone", x.plate(1, 4), NONE);
        x.dish(2, 2, 1);
        x.lay(2);
        x.tick(6);
        Due.is("thrown", x.plate(2, 3), 4);
        Due.is("thrown", x.plate(2, 4), NONE);
    }

    private static void atEmpty() {
        Due.by("promise 6: NONE: none");
        PlateRound x = new PlateRound(0);
        x.lay(4);
        x.tick(2);
        for (int place = 0; place < 6; place++) {
            Due.is("at(" + place + ")", x.at(place), place == 2 ? 0 : NONE);
        }
        x.gone(2);
        Due.is("at(2)", x.at(2), NONE);
    }

    private static void atOutside() {
        Due.by("promise 6: BAD");
        for (int number = 0; number < 7; number++) {
            PlateRound x = new PlateRound(number);
            Due.is("the last place", x.at(5 + number), NONE);
            for (int place : new int[] {-1, 6 + number, MIN, MAX}) {
                Due.is("at(" + place + ") of " + (6 + number), x.at(place), BAD);
            }
        }
    }

    private static void goneOutside() {
        Due.by("promise 7: BAD: PLACE");
        for (int number = 0; number < 7; number++) {
            PlateRound x = new PlateRound(number);
            for (int place : new int[] {-1, 6 + number, MIN, MAX}) {
                Due.is("gone(" + place + ") of " + (6 + number), x.gone(place), BAD);
            }
            x.lay(0);
            x.tick(5 + number);
            Due.is("of the last place", x.gone(5 + number), 0);
        }
    }

    private static void goneOfNone() {
        Due.by("promise 7: STATE: there is none");
        PlateRound x = seated();
        x.order(0, 1);
        x.tick(1);
        Due.is("a tray over it is none", x.gone(0), STATE);
        x.lay(1);
        x.tick(1);
        Due.is("behind it", x.gone(0), STATE);
        Due.is("ahead of it", x.gone(2), STATE);
        Due.is("there", x.gone(1), 1);
    }

    private static void goneTwice() {
        Due.by("promise 7: STATE: it is GONE already");
        PlateRound x = new PlateRound(0);
        x.lay(1);
        Due.is("gone", x.gone(0), 0);
        Due.is("again", x.gone(0), STATE);
        Due.is("one is missing", x.empties(1, 6), 1);
    }

    private static void missingAreTheGone() {
        Due.by("promise 21: 6 are missing (made, less all these)");
        PlateRound x = fed(1);
        Due.is("eaten", x.empties(0, 6), 0);
        x.tick(1);
        Due.is("paid", x.empties(0, 6), 0);
        x.guest(0, 0, 0);
        x.order(0, 5);
        Due.is("on a tray", x.empties(0, 6), 0);
        x.lay(5);
        Due.is("on the belt", x.empties(0, 6), 0);
        x.gone(0);
        Due.is("gone", x.empties(0, 6), 1);
        Due.is("of another colour", x.empties(1, 6), 0);
        Due.is("made", x.empties(0, 0), 3);
    }

    private static void traysThatWaitAreOnTrays() {
        Due.by("promise 21: 2 on TRAYS (that wait, too)");
        PlateRound x = seated();
        x.order(0, 4);
        x.order(0, 4);
        Due.is("both wait", x.empties(4, 2), 2);
        x.tick(1);
        Due.is("one waits", x.empties(4, 2), 2);
        x.tick(3);
        Due.is("one is eaten", x.empties(4, 2), 1);
    }

    private static void emptiesOutside() {
        Due.by("promise 21: BAD");
        PlateRound x = seated();
        for (int what : new int[] {-1, 7, MIN, MAX}) {
            Due.is("empties(0, " + what + ")", x.empties(0, what), BAD);
        }
        Due.is("empties(0, 0)", x.empties(0, 0), 0);
        Due.is("empties(0, 6)", x.empties(0, 6), 0);
    }

    private static void countOutside() {
        Due.by("promise 27: BAD");
        PlateRound x = new PlateRound(0);
        for (int what : new int[] {-1, 11, MIN, MAX}) {
            Due.is("count(" + what + ")", x.count(what), BAD);
        }
        Due.is("count(0)", x.count(0), 6);
        Due.is("count(10)", x.count(10), 0);
    }

    private static void countsOfANewOne() {
        Due.by("promise 27: of an object that is new");
        PlateRound x = new PlateRound(3);
        int[] due = {9, 0, 0, 0, 0, 0, 0, 0, 1, 0, 0};
        for (int what = 0; what < due.length; what++) {
            Due.is("count(" + what + ")", x.count(what), due[what]);
        }
    }
}
