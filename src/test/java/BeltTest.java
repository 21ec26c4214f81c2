/** Promises 1 to 7, 21 and 27: the belt, its dishes and prices, and what is counted. */
public final class BeltTest {
    public static void main(String[] args) {
        newObject();
        dishes();
        prices();
        laying();
        toldOfPlates();
        gone();
        riding();
        stale();
        firstLimits();
        empties();
        counts();
        threeHundred();
        Due.end();
    }

    private static void newObject() {
        int[] numbers = {0, 1, 2, 3, 4, 5, 6, 7, 8, -1, -2, -7, -8, 70, Integer.MAX_VALUE, Integer.MIN_VALUE};
        int[] places = {6, 7, 8, 9, 10, 11, 12, 6, 7, 12, 11, 6, 12, 6, 7, 11};
        for (int i = 0; i < numbers.length; i++) {
            PlateRound x = new PlateRound(numbers[i]);
            Due.is("count(0) of " + numbers[i], x.count(0), places[i]);
            Due.is("at the last place", x.at(places[i] - 1), PlateRound.NONE);
            Due.is("at behind the last place", x.at(places[i]), PlateRound.BAD);
        }
        PlateRound x = new PlateRound(0);
        int[] counts = {6, 0, 0, 0, 0, 0, 0, 0, 1, 0, 0};
        for (int what = 0; what < counts.length; what++) {
            Due.is("new: count(" + what + ")", x.count(what), counts[what]);
        }
        for (int place = 0; place < 6; place++) {
            Due.is("new: at(" + place + ")", x.at(place), PlateRound.NONE);
            Due.is("new: lane(" + place + ")", x.lane(place), PlateRound.NONE);
        }
        Due.is("new: seatTold", x.seatTold(0, 0), PlateRound.BAD);
        Due.is("new: plate", x.plate(0, 0), PlateRound.BAD);
    }

    private static void dishes() {
        PlateRound x = new PlateRound(0);
        int[] colours = {0, 1, 2, 3, 4, 0};
        for (int dish = 0; dish < 6; dish++) {
            Due.is("dish " + dish, x.dish(dish, 4, 60), colours[dish]);
            Due.is("dish " + dish + " again", x.dish(dish, 0, 1), 4);
            Due.is("dish " + dish + " a third time", x.dish(dish, 2, 20), 0);
        }
        int[][] bad = {{-1, 0, 1}, {6, 0, 1}, {0, -1, 1}, {0, 5, 1}, {0, 0, 0}, {0, 0, 61},
            {Integer.MIN_VALUE, 0, 1}, {0, Integer.MAX_VALUE, 1}, {0, 0, Integer.MIN_VALUE}};
        for (int[] b : bad) {
            Due.is("bad dish", x.dish(b[0], b[1], b[2]), PlateRound.BAD);
        }
        Due.is("dish 0 is as it was", x.dish(0, 1, 1), 2);
    }

    private static void prices() {
        PlateRound x = new PlateRound(0);
        for (int colour = 0; colour < 5; colour++) {
            Due.is("price " + colour, x.price(colour, 999), 100);
            Due.is("price above", x.price(colour, 1000), PlateRound.BAD);
            Due.is("price below", x.price(colour, -1), PlateRound.BAD);
            Due.is("price of 0", x.price(colour, 0), 999);
            Due.is("price " + colour + " again", x.price(colour, colour), 0);
        }
        Due.is("price of no colour", x.price(-1, 5), PlateRound.BAD);
        Due.is("price of no colour", x.price(5, 5), PlateRound.BAD);
        Due.is("price 4 stands", x.price(4, 1), 4);
        Due.is("price 3 stands", x.price(3, 1), 3);
    }

    private static void laying() {
        PlateRound x = new PlateRound(0);
        Due.is("lay(-1)", x.lay(-1), PlateRound.BAD);
        Due.is("lay(6)", x.lay(6), PlateRound.BAD);
        Due.is("lay(5)", x.lay(5), 0);
        Due.is("at(0)", x.at(0), 0);
        Due.is("lay at a plate", x.lay(0), PlateRound.STATE);
        Due.is("BAD is ahead of STATE", x.lay(6), PlateRound.BAD);
        Due.is("plates made", x.count(1), 1);
        x.tick(1);
        Due.is("at(1)", x.at(1), 0);
        Due.is("lay(0)", x.lay(0), 1);
        Due.is("at(-1)", x.at(-1), PlateRound.BAD);
        Due.is("at(6)", x.at(6), PlateRound.BAD);
    }

    private static void toldOfPlates() {
        PlateRound x = new PlateRound(0);
        x.seat(2);
        x.guest(0, 0, 90);
        x.dish(1, 3, 20);
        x.lay(1);
        x.dish(1, 2, 20);
        told(x, 0, 1, 3, 0, 0, 0);
        x.tick(1);
        told(x, 0, 1, 3, 1, 0, 1);
        x.tick(1);
        told(x, 0, 1, 3, 2, 2, 0);
        x.order(0, 4);
        told(x, 1, 4, 4, 0, 1, -1);
        x.tick(1);
        told(x, 1, 4, 4, 0, 1, 0);
        x.tick(1);
        told(x, 1, 4, 4, 1, 1, 1);
        Due.is("plate(0, -1)", x.plate(0, -1), PlateRound.BAD);
        Due.is("plate(0, 5)", x.plate(0, 5), PlateRound.BAD);
        Due.is("plate(-1, 0)", x.plate(-1, 0), PlateRound.BAD);
        Due.is("plate(2, 0)", x.plate(2, 0), PlateRound.BAD);
        x.tick(1);
        told(x, 1, 4, 4, 2, 2, 0);
        Due.rule(x, "take 0; go 1;");
        x.tick(1);
        told(x, 0, 1, 3, 2, 3, -1);
        told(x, 1, 4, 4, 2, 3, -1);
    }

    private static void told(PlateRound x, int plate, int... due) {
        for (int what = 0; what < due.length; what++) {
            Due.is("plate(" + plate + ", " + what + ")", x.plate(plate, what), due[what]);
        }
    }

    private static void gone() {
        PlateRound x = new PlateRound(0);
        Due.is("gone(0) of none", x.gone(0), PlateRound.STATE);
        x.lay(3);
        Due.is("gone(-1)", x.gone(-1), PlateRound.BAD);
        Due.is("gone(6)", x.gone(6), PlateRound.BAD);
        x.tick(5);
        Due.is("gone(4)", x.gone(4), PlateRound.STATE);
        Due.is("gone(5)", x.gone(5), 0);
        Due.is("gone(5) again", x.gone(5), PlateRound.STATE);
        Due.is("at(5)", x.at(5), PlateRound.NONE);
        told(x, 0, 3, 3, 5, 5, -1);
        x.lay(2);
        Due.is("gone(0)", x.gone(0), 1);
        Due.is("the hatch is free", x.lay(2), 2);
        x.tick(30);
        told(x, 0, 3, 3, 5, 5, -1);
    }

    private static void riding() {
        PlateRound x = new PlateRound(1);
        x.dish(0, 0, 60);
        for (int i = 0; i < 7; i++) {
            x.lay(0);
            x.tick(1);
        }
        for (int place = 0; place < 7; place++) {
            Due.is("a full belt", x.at(place), place == 0 ? 0 : 7 - place);
        }
        Due.is("the hatch is not free", x.lay(1), PlateRound.STATE);
        x.tick(1);
        Due.is("round the hatch", x.at(0), 1);
        Due.is("round the hatch", x.at(1), 0);
        Due.is("its age", x.plate(0, 2), 8);
        x.tick(13);
        Due.is("round again", x.at(0), 0);
        Due.is("its age", x.plate(0, 2), 21);
    }

    private static void stale() {
        PlateRound x = new PlateRound(0);
        x.dish(2, 2, 6);
        x.lay(2);
        x.tick(6);
        Due.is("as old as its limit it stays", x.at(0), 0);
        x.tick(5);
        told(x, 0, 2, 2, 11, 0, 5);
        x.tick(1);
        told(x, 0, 2, 2, 12, 4, -1);
        Due.is("the hatch is free", x.at(0), PlateRound.NONE);
        x.lay(3);
        x.tick(6);
        x.dish(3, 3, 11);
        x.dish(2, 2, 60);
        x.tick(6);
        told(x, 1, 3, 3, 12, 4, -1);
        x.lay(0);
        x.tick(23);
        Due.is("age 23 is over 20, but not at the hatch", x.plate(2, 3), 0);
        x.tick(1);
        Due.is("thrown at the hatch", x.plate(2, 3), 4);
    }

    private static void firstLimits() {
        for (int dish = 0; dish < 6; dish++) {
            PlateRound x = new PlateRound(4);
            x.lay(dish);
            x.tick(20);
            Due.is("20 old it stays at the hatch", x.at(0), 0);
            PlateRound y = new PlateRound(1);
            y.lay(dish);
            y.tick(20);
            Due.is("it came not to the hatch yet", y.at(6), 0);
            y.tick(1);
            Due.is("21 old it is thrown", y.plate(0, 3), 4);
            Due.is("a refused limit", y.dish(dish, 5, 40), PlateRound.BAD);
            y.lay(dish);
            y.tick(21);
            Due.is("changes nothing", y.plate(1, 3), 4);
        }
    }

    private static void empties() {
        PlateRound x = new PlateRound(0);
        x.seat(1);
        x.seat(3);
        x.guest(0, 0, 9);
        x.guest(1, 0, 0);
        x.dish(1, 0, 1);
        x.lay(0);
        x.tick(1);
        x.lay(5);
        x.gone(0);
        x.order(1, 5);
        x.order(1, 5);
        x.lay(1);
        x.tick(2);
        x.lay(1);
        int[] due = {6, 2, 2, 1, 0, 0, 1};
        for (int what = 0; what < 7; what++) {
            Due.is("empties(0, " + what + ")", x.empties(0, what), due[what]);
            Due.is("empties(1, " + what + ")", x.empties(1, what), 0);
        }
        Due.is("empties(-1, 0)", x.empties(-1, 0), PlateRound.BAD);
        Due.is("empties(5, 0)", x.empties(5, 0), PlateRound.BAD);
        Due.is("empties(0, -1)", x.empties(0, -1), PlateRound.BAD);
        Due.is("empties(0, 7)", x.empties(0, 7), PlateRound.BAD);
        Due.rule(x, "take 0; go eaten = 1;");
        x.tick(1);
        x.lay(3);
        x.tick(3);
        int[] later = {6, 1, 0, 0, 2, 2, 1};
        for (int what = 0; what < 7; what++) {
            Due.is("later empties(0, " + what + ")", x.empties(0, what), later[what]);
        }
        Due.is("empties(3, 0)", x.empties(3, 0), 1);
        Due.is("empties(3, 1)", x.empties(3, 1), 1);
    }

    private static void counts() {
        PlateRound x = new PlateRound(4);
        x.seat(3);
        x.seat(5);
        x.seat(7);
        x.guest(0, 0, 0);
        x.guest(2, 0, 9);
        for (int i = 0; i < 4; i++) {
            x.order(0, i);
        }
        x.tick(3);
        x.lay(0);
        Due.feed(x, "take 1; go eaten;");
        Due.is("count(9)", x.count(9), 17);
        x.text();
        Due.feed(x, "take");
        int[] due = {10, 5, 3, 2, 3, 3, 1, 0, 2, 4, 0};
        for (int what = 0; what < due.length; what++) {
            Due.is("count(" + what + ")", x.count(what), due[what]);
        }
        Due.is("count(-1)", x.count(-1), PlateRound.BAD);
        Due.is("count(11)", x.count(11), PlateRound.BAD);
        x.force(1);
        Due.is("count(10)", x.count(10), 1);
        x.price(0, 7);
        x.tick(1);
        Due.is("guests: one left", x.count(3), 1);
        Due.is("takings", x.count(7), 7);
        Due.is("ticks", x.count(4), 4);
        Due.is("in the lane", x.count(5), 3);
        Due.is("waiting", x.count(6), 0);
    }

    private static void threeHundred() {
        PlateRound x = new PlateRound(6);
        x.sheet(0, 2, 40);
        for (int i = 0; i < 20; i++) {
            Due.is("12 are laid", x.lays(0, 2, 0, 12), 12);
            for (int place = 0; place < 12; place++) {
                Due.is("gone", x.gone(place), i * 12 + (place == 0 ? 0 : 12 - place));
            }
        }
        for (int plate = 240; plate < 299; plate++) {
            Due.is("lay", x.lay(1), plate);
            x.gone(0);
        }
        x.seat(1);
        x.guest(0, 0, 0);
        Due.is("a tray, the last plate", x.order(0, 0), 299);
        Due.is("no tray more", x.order(0, 0), PlateRound.FULL);
        Due.is("no plate more", x.lay(1), PlateRound.FULL);
        Due.is("BAD is ahead of FULL", x.lay(-1), PlateRound.BAD);
        Due.is("plates", x.count(1), 300);
        Due.is("lays leaves it out", x.lays(0, 2, 0, 3), 0);
        Due.is("nothing is laid ahead", x.ahead(1, 0, 0), 0);
        Due.is("the last plate", x.plate(299, 0), 0);
        Due.is("behind the last plate", x.plate(300, 0), PlateRound.BAD);
    }
}
