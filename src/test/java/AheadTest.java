/** Promises 22 to 24: waste, the best row ahead, its worth. */
public final class AheadTest {
    public static void main(String[] args) {
        waste();
        refused();
        likeOnes();
        prices();
        wasted();
        takenHatch();
        traysCount();
        leastFirst();
        playedOut();
        allAsBefore();
        nearlyFull();
        Due.end();
    }

    private static PlateRound ruled(String text, int... places) {
        PlateRound x = new PlateRound(0);
        for (int i = 0; i < places.length; i++) {
            x.seat(places[i]);
            x.guest(i, 0, 0);
        }
        Due.rule(x, text);
        return x;
    }

    private static void row(PlateRound x, int k, int t, long worth, int... choices) {
        for (int i = 0; i < k; i++) {
            Due.is("ahead(" + k + ", " + t + ", " + i + ")", x.ahead(k, t, i), choices[i]);
        }
        Due.is("worth(" + k + ", " + t + ")", x.worth(k, t), worth);
    }

    private static void waste() {
        PlateRound x = new PlateRound(0);
        Due.is("waste(-1)", x.waste(-1), PlateRound.BAD);
        Due.is("waste(1000)", x.waste(1000), PlateRound.BAD);
        Due.is("waste(999)", x.waste(999), 50);
        Due.is("waste(0)", x.waste(0), 999);
        Due.is("waste(7)", x.waste(7), 0);
        Due.is("waste(7)", x.waste(7), 7);
    }

    private static void refused() {
        PlateRound x = new PlateRound(0);
        int[][] bad = {{0, 0, 0}, {4, 0, 0}, {-1, 0, 0}, {1, -1, 0}, {1, 25, 0}, {1, 0, 1}, {3, 0, 3}, {2, 0, 2}, {1, 0, -1}};
        for (int[] b : bad) {
            Due.is("bad ahead", x.ahead(b[0], b[1], b[2]), PlateRound.BAD);
        }
        Due.is("ahead(3, 24, 2)", x.ahead(3, 24, 2), 6);
        Due.is("worth(0, 0)", x.worth(0, 0), PlateRound.NO);
        Due.is("worth(4, 0)", x.worth(4, 0), PlateRound.NO);
        Due.is("worth(1, -1)", x.worth(1, -1), PlateRound.NO);
        Due.is("worth(1, 25)", x.worth(1, 25), PlateRound.NO);
        Due.is("worth(3, 24)", x.worth(3, 24), 0);
    }

    private static void likeOnes() {
        PlateRound x = new PlateRound(0);
        row(x, 3, 0, 0, 0, 0, 0);
        row(x, 1, 22, 0, 0);
        row(x, 1, 23, 0, 6);
        x.dish(0, 0, 2);
        row(x, 1, 4, 0, 0);
        row(x, 1, 5, 0, 1);
        row(x, 2, 5, 0, 1, 1);
        row(x, 2, 4, 0, 1, 0);
        row(x, 3, 3, 0, 1, 0, 0);
        x.waste(0);
        row(x, 2, 5, 0, 0, 0);
    }

    private static void prices() {
        PlateRound x = ruled("take 1; go eaten = 2;", 1);
        x.price(3, 200);
        row(x, 1, 0, 200, 3);
        row(x, 2, 0, 400, 3, 3);
        row(x, 3, 9, 400, 3, 3, 0);
        x.dish(5, 4, 20);
        x.price(4, 500);
        row(x, 2, 0, 1000, 4, 4);
        x.dish(2, 4, 20);
        row(x, 2, 0, 1000, 2, 2);
        x.price(4, 0);
        x.price(3, 0);
        x.price(0, 0);
        x.price(1, 0);
        row(x, 2, 0, 0, 0, 0);
        x.price(2, 1);
        row(x, 2, 24, 0, 0, 0);
    }

    private static void wasted() {
        PlateRound x = ruled("take 0; go 0;", 1);
        for (int dish = 0; dish < 6; dish++) {
            x.dish(dish, 0, 6);
        }
        row(x, 3, 8, 0, 0, 0, 0);
        row(x, 3, 9, 0, 6, 0, 0);
        row(x, 3, 24, 0, 6, 6, 6);
        x.waste(0);
        row(x, 3, 24, 0, 0, 0, 0);
        x.waste(30);
        x.lay(0);
        x.tick(6);
        x.gone(0);
        x.lay(1);
        x.tick(6);
        x.tick(5);
        row(x, 1, 0, -30, 0);
        Due.is("not thrown", x.plate(1, 3), 0);
    }

    private static void takenHatch() {
        PlateRound x = ruled("take 1; go 0;", 2);
        x.price(1, 999);
        x.lay(2);
        row(x, 1, 0, 0, 0);
        row(x, 1, 24, 100, 0);
        row(x, 2, 1, 1099, 0, 1);
        row(x, 3, 0, 1099, 0, 1, 0);
        row(x, 3, 1, 2098, 0, 1, 1);
        x.gone(0);
        row(x, 2, 0, 999, 1, 0);
    }

    private static void traysCount() {
        PlateRound x = ruled("take 0; go eaten;", 2, 3);
        x.price(4, 20);
        x.order(0, 4);
        x.order(0, 4);
        x.order(1, 0);
        x.waste(9);
        row(x, 3, 0, 20, 0, 0, 0);
        row(x, 3, 1, 20, 0, 0, 0);
        row(x, 3, 2, 11, 0, 0, 0);
        row(x, 3, 3, 111, 0, 0, 0);
        row(x, 3, 4, 111, 0, 0, 0);
        Due.is("they wait still", x.count(6), 3);
        Due.is("nobody left", x.count(3), 2);
        Due.is("nothing was eaten", x.tick(2), 0);
        row(x, 1, 0, 20, 0);
    }

    private static void leastFirst() {
        PlateRound y = new PlateRound(0);
        Due.rule(y, "take like = 3; go 0;");
        y.seat(1);
        y.guest(0, 0, 333000);
        row(y, 3, 0, 300, 3, 3, 3);
        y.price(0, 101);
        row(y, 3, 0, 303, 5, 5, 5);
        y.price(0, 99);
        row(y, 3, 0, 300, 3, 3, 3);
        y.price(3, 99);
        row(y, 3, 0, 300, 4, 4, 4);
        PlateRound z = new PlateRound(0);
        Due.rule(z, "take like = 3; go eaten = 1;");
        z.seat(1);
        z.guest(0, 0, 3330);
        row(z, 3, 0, 100, 0, 0, 1);
        row(z, 3, 24, 100, 1, 6, 6);
        row(z, 3, 18, 100, 0, 0, 1);
        row(z, 3, 22, 100, 1, 6, 0);
        z.dish(0, 0, 11);
        row(z, 3, 10, 100, 1, 1, 0);
    }

    // What ahead tells must come about when the row is laid.
    private static void playedOut() {
        for (int run = 0; run < 12; run++) {
            PlateRound x = scene(run);
            int k = run % 3 + 1;
            int t = run * 2;
            long worth = x.worth(k, t);
            int[] choices = new int[k];
            for (int i = 0; i < k; i++) {
                choices[i] = x.ahead(k, t, i);
            }
            Due.is("the best of all rows, run " + run, worth, bestOfAll(run, k, t, choices));
            Due.is("played, run " + run, played(scene(run), choices, t), worth);
        }
    }

    private static PlateRound scene(int run) {
        PlateRound x = new PlateRound(run);
        x.seat(2);
        x.seat(5);
        x.seat(4);
        for (int dish = 0; dish < 6; dish++) {
            x.dish(dish, (dish + run) % 5, 3 + (dish * 7 + run) % 9);
        }
        for (int colour = 0; colour < 5; colour++) {
            x.price(colour, 40 + (colour * 37 + run * 11) % 60);
        }
        x.waste(run * 17 % 100);
        x.guest(0, run % 6, 123450 + run);
        x.guest(1, (run + 3) % 6, 505050);
        x.guest(2, (run + 4) % 6, 98765);
        x.tick(run % 4 + 1);
        x.order(run % 3, run % 6);
        x.lay(run % 6);
        x.tick(run % 3 + 1);
        x.order(1, 0);
        if (run % 5 == 0) {
            x.lay(5);
        }
        return x;
    }

    // Rows in their order; the one that ahead named must be the first of the best ones.
    private static long bestOfAll(int run, int k, int t, int[] named) {
        long best = Long.MIN_VALUE;
        int rows = k == 1 ? 7 : k == 2 ? 49 : 343;
        int[] row = new int[k];
        int[] first = new int[k];
        for (int number = 0; number < rows; number++) {
            int rest = number;
            for (int i = k - 1; i >= 0; i--) {
                row[i] = rest % 7;
                rest /= 7;
            }
            long worth = played(scene(run), row, t);
            if (worth > best) {
                best = worth;
                first = row.clone();
            }
        }
        for (int i = 0; i < k; i++) {
            Due.is("choice " + i + ", run " + run, named[i], first[i]);
        }
        return best;
    }

    private static long played(PlateRound x, int[] row, int t) {
        long before = worthOf(x);
        for (int choice : row) {
            if (choice < 6) {
                x.lay(choice);
            }
            x.tick(1);
        }
        if (t > 0) {
            x.tick(t);
        }
        return worthOf(x) - before;
    }

    private static long worthOf(PlateRound x) {
        int waste = x.waste(0);
        x.waste(waste);
        long sum = 0;
        for (int colour = 0; colour < 5; colour++) {
            int price = x.price(colour, 0);
            x.price(colour, price);
            sum += (long) price * (x.empties(colour, 3) + x.empties(colour, 4));
            sum -= (long) waste * x.empties(colour, 5);
        }
        return sum;
    }

    private static void allAsBefore() {
        PlateRound x = scene(3);
        PlateRound y = scene(3);
        for (int i = 0; i < 9; i++) {
            x.worth(i % 3 + 1, i * 2);
            x.ahead(3, 24 - i, 2);
        }
        for (int round = 0; round < 2; round++) {
            for (int what = 0; what < 11; what++) {
                Due.is("count(" + what + ")", x.count(what), y.count(what));
            }
            for (int seat = 0; seat < 3; seat++) {
                for (int what = 0; what < 8; what++) {
                    Due.is("seatTold", x.seatTold(seat, what), y.seatTold(seat, what));
                }
            }
            for (int plate = 0; plate < x.count(1); plate++) {
                for (int what = 0; what < 5; what++) {
                    Due.is("plate", x.plate(plate, what), y.plate(plate, what));
                }
            }
            for (int place = 0; place < x.count(0); place++) {
                Due.is("at", x.at(place), y.at(place));
                Due.is("lane", x.lane(place), y.lane(place));
            }
            Due.is("tick", x.tick(7), y.tick(7));
        }
    }

    private static void nearlyFull() {
        PlateRound x = ruled("take 1; go 0;", 1);
        x.sheet(0, 0, 40);
        for (int i = 0; i < 12; i++) {
            Due.is("24 are laid", x.lays(0, 0, 0, 24), 24);
        }
        Due.is("10 are laid", x.lays(0, 0, 0, 10), 10);
        Due.is("plates", x.count(1), 298);
        row(x, 3, 0, 200, 0, 0, 0);
        x.price(2, 900);
        row(x, 3, 0, 1800, 2, 2, 0);
        x.lay(1);
        x.tick(1);
        row(x, 3, 0, 900, 2, 0, 0);
        x.gone(0);
        x.lay(2);
        x.gone(0);
        row(x, 3, 24, 0, 0, 0, 0);
    }
}
