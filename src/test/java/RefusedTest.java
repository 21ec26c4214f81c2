import java.util.function.Supplier;
import java.util.function.ToLongFunction;

/**
 * "Refusals change nothing": behind each call that is refused an object tells all that one tells on
 * which the call was not made. The same of the calls that tell alone.
 */
public final class RefusedTest {
    private static final int MIN = Integer.MIN_VALUE, MAX = Integer.MAX_VALUE;
    private static final int BAD = PlateRound.BAD, NONE = PlateRound.NONE, STATE = PlateRound.STATE, FULL = PlateRound.FULL;
    private static final long NO = PlateRound.NO;
    private static final int[] WILD = {MIN, MAX, -1, -2, 1000, 1000000};

    private static Supplier<PlateRound> scene;
    private static long[] untouched;

    public static void main(String[] args) {
        Due.by("Refusals change nothing");
        on(RefusedTest::evening);
        house();
        belt();
        seats();
        payers();
        texts();
        ticks();
        ahead();
        fish();
        host();
        wild();
        tellsAlone();
        on(RefusedTest::fullHouse);
        fullOfPlates();
        on(RefusedTest::fullQueue);
        fullOfTrays();
        on(RefusedTest::fullTape);
        fullOfTexts();
        on(RefusedTest::lastTick);
        fullOfTicks();
        Due.end();
    }

    private static void on(Supplier<PlateRound> made) {
        scene = made;
        untouched = Whole.told(made.get());
        Whole.same("the scene itself", Whole.told(made.get()), untouched);
    }

    private static void check(String call, long due, ToLongFunction<PlateRound> made) {
        PlateRound x = scene.get();
        Due.is(call, made.applyAsLong(x), due);
        Whole.same("behind " + call, Whole.told(x), untouched);
    }

    // Seats 0 and 1 have guests, 2 has none; seat 0 has just taken plate 5; plate 6 is at the hatch.
    private static PlateRound evening() {
        PlateRound x = new PlateRound(6);
        Due.rule(x, "take 1; go eaten=5;");
        x.seat(1);
        x.seat(3);
        x.seat(6);
        x.guest(0, 5, 123456);
        x.guest(1, 4, 654321);
        x.pays(0, 1);
        x.dish(2, 0, 15);
        x.price(3, 77);
        x.waste(11);
        x.piece(2, 30);
        x.piece(3, 50);
        x.lay(2);
        x.tick(1);
        x.order(1, 4);
        x.order(1, 5);
        x.order(0, 1);
        x.lay(1);
        x.gone(0);
        x.lay(3);
        x.tick(1);
        x.lay(0);
        Due.feed(x, "take like;go");
        x.sheet(0, 1, 40);
        x.cell(0, 0, 4);
        x.sheet(1, 2, 2);
        x.sheet(2, 0, 0);
        return x;
    }

    private static PlateRound fullHouse() {
        PlateRound x = new PlateRound(6);
        for (int place = 1; place <= 8; place++) {
            x.seat(place);
        }
        x.dish(0, 0, 1);
        x.sheet(0, 0, 24);
        for (int i = 0; i < 12; i++) {
            x.lays(0, 0, 0, 24);
        }
        x.lays(0, 0, 0, 11);
        x.guest(0, 0, 0);
        x.order(0, 0);
        return x;
    }

    private static PlateRound fullQueue() {
        PlateRound x = new PlateRound(2);
        x.seat(7);
        x.guest(0, 0, 0);
        for (int i = 0; i < 16; i++) {
            x.order(0, i % 6);
        }
        return x;
    }

    private static PlateRound fullTape() {
        PlateRound x = new PlateRound(2);
        for (int i = 0; i < 5; i++) {
            Due.text(x, "take " + i + ";go 0;");
        }
        x.force(3);
        StringBuilder text = new StringBuilder("take 1;go 0;");
        while (text.length() < 158) {
            text.append(' ');
        }
        Due.feed(x, text.toString());
        return x;
    }

    private static PlateRound lastTick() {
        PlateRound x = new PlateRound(2);
        for (int i = 0; i < 166; i++) {
            x.tick(60);
        }
        x.tick(37);
        x.seat(1);
        x.guest(0, 0, 5);
        x.sheet(0, 0, 40);
        return x;
    }

    private static void house() {
        check("dish(6, 0, 1)", BAD, x -> x.dish(6, 0, 1));
        check("dish(2, 5, 1)", BAD, x -> x.dish(2, 5, 1));
        check("dish(2, -1, 1)", BAD, x -> x.dish(2, -1, 1));
        check("dish(2, 1, 0)", BAD, x -> x.dish(2, 1, 0));
        check("dish(2, 1, 61)", BAD, x -> x.dish(2, 1, 61));
        check("price(5, 1)", BAD, x -> x.price(5, 1));
        check("price(3, 1000)", BAD, x -> x.price(3, 1000));
        check("price(3, -1)", BAD, x -> x.price(3, -1));
        check("waste(1000)", BAD, x -> x.waste(1000));
        check("waste(-1)", BAD, x -> x.waste(-1));
    }

    private static void belt() {
        check("lay(6)", BAD, x -> x.lay(6));
        check("lay(-1)", BAD, x -> x.lay(-1));
        check("lay(1)", STATE, x -> x.lay(1));
        check("plate(0, 5)", BAD, x -> x.plate(0, 5));
        check("plate(99, 0)", BAD, x -> x.plate(99, 0));
        check("at(12)", BAD, x -> x.at(12));
        check("gone(12)", BAD, x -> x.gone(12));
        check("gone(-1)", BAD, x -> x.gone(-1));
        check("gone(2)", STATE, x -> x.gone(2));
        check("empties(5, 0)", BAD, x -> x.empties(5, 0));
        check("empties(0, 7)", BAD, x -> x.empties(0, 7));
        check("count(11)", BAD, x -> x.count(11));
    }

    private static void seats() {
        check("seat(0)", BAD, x -> x.seat(0));
        check("seat(12)", BAD, x -> x.seat(12));
        check("seat(3)", BAD, x -> x.seat(3));
        check("guest(3, 0, 0)", BAD, x -> x.guest(3, 0, 0));
        check("guest(2, 6, 0)", BAD, x -> x.guest(2, 6, 0));
        check("guest(2, 0, -1)", BAD, x -> x.guest(2, 0, -1));
        check("guest(2, 0, 1000000)", BAD, x -> x.guest(2, 0, 1000000));
        check("guest(0, 0, 0)", STATE, x -> x.guest(0, 0, 0));
        check("seatTold(3, 0)", BAD, x -> x.seatTold(3, 0));
        check("seatTold(0, 8)", BAD, x -> x.seatTold(0, 8));
        check("liking(2, 0)", NO, x -> x.liking(2, 0));
        check("liking(0, 99)", NO, x -> x.liking(0, 99));
        check("taken(0, 6)", BAD, x -> x.taken(0, 6));
        check("taken(2, 0)", -11, x -> x.taken(2, 0));
        check("taken(0, 2)", -13, x -> x.taken(0, 2));
    }

    private static void payers() {
        check("pays(0, 0)", BAD, x -> x.pays(0, 0));
        check("pays(0, 3)", BAD, x -> x.pays(0, 3));
        check("pays(3, 0)", BAD, x -> x.pays(3, 0));
        check("pays(0, -2)", BAD, x -> x.pays(0, -2));
        check("pays(0, 2)", -5, x -> x.pays(0, 2));
        check("pays(2, 0)", -5, x -> x.pays(2, 0));
        check("pays(2, -1)", -5, x -> x.pays(2, -1));
        check("putBack(3)", BAD, x -> x.putBack(3));
        check("putBack(1)", STATE, x -> x.putBack(1));
        check("putBack(2)", STATE, x -> x.putBack(2));
    }

    private static void texts() {
        check("feed(0, 1)", BAD, x -> x.feed(0, 1));
        check("feed(9, 1)", BAD, x -> x.feed(9, 1));
        check("force(2)", BAD, x -> x.force(2));
        check("force(-1)", BAD, x -> x.force(-1));
        check("says(2, 0, 0)", NO, x -> x.says(2, 0, 0));
        check("says(0, 99, 0)", NO, x -> x.says(0, 99, 0));
        check("says(0, 0, 2)", NO, x -> x.says(0, 0, 2));
    }

    private static void ticks() {
        check("tick(0)", BAD, x -> x.tick(0));
        check("tick(61)", BAD, x -> x.tick(61));
        check("order(3, 0)", BAD, x -> x.order(3, 0));
        check("order(0, 6)", BAD, x -> x.order(0, 6));
        check("order(2, 0)", STATE, x -> x.order(2, 0));
        check("lane(12)", BAD, x -> x.lane(12));
    }

    private static void ahead() {
        check("ahead(0, 0, 0)", BAD, x -> x.ahead(0, 0, 0));
        check("ahead(4, 0, 0)", BAD, x -> x.ahead(4, 0, 0));
        check("ahead(1, 25, 0)", BAD, x -> x.ahead(1, 25, 0));
        check("ahead(2, 5, 2)", BAD, x -> x.ahead(2, 5, 2));
        check("worth(4, 0)", NO, x -> x.worth(4, 0));
        check("worth(1, -1)", NO, x -> x.worth(1, -1));
    }

    private static void fish() {
        check("piece(0, 1)", BAD, x -> x.piece(0, 1));
        check("piece(7, 1)", BAD, x -> x.piece(7, 1));
        check("piece(2, 1000)", BAD, x -> x.piece(2, 1000));
        check("piece(2, -1)", BAD, x -> x.piece(2, -1));
        check("cut(0, -1)", BAD, x -> x.cut(0, -1));
        check("cut(31, 0)", BAD, x -> x.cut(31, 0));
        check("cut(3, 9)", NONE, x -> x.cut(3, 9));
    }

    private static void host() {
        check("sheet(4, 0, 1)", BAD, x -> x.sheet(4, 0, 1));
        check("sheet(0, 3, 1)", BAD, x -> x.sheet(0, 3, 1));
        check("sheet(0, -2, 1)", BAD, x -> x.sheet(0, -2, 1));
        check("sheet(0, 0, 41)", BAD, x -> x.sheet(0, 0, 41));
        check("sheet(0, 0, -1)", -14, x -> x.sheet(0, 0, -1));
        check("sheet(3, 0, -1)", -14, x -> x.sheet(3, 0, -1));
        check("cell(4, 0, 1)", BAD, x -> x.cell(4, 0, 1));
        check("cell(3, 0, 1)", -11, x -> x.cell(3, 0, 1));
        check("cell(1, 2, 1)", -12, x -> x.cell(1, 2, 1));
        check("cell(2, 0, 1)", -12, x -> x.cell(2, 0, 1));
        check("lays(4, 0, 0, 1)", BAD, x -> x.lays(4, 0, 0, 1));
        check("lays(0, 3, 0, 1)", BAD, x -> x.lays(0, 3, 0, 1));
        check("lays(0, 1, 0, 25)", BAD, x -> x.lays(0, 1, 0, 25));
        check("lays(0, 1, 0, -1)", BAD, x -> x.lays(0, 1, 0, -1));
        check("lays(0, 2, 0, 3)", -13, x -> x.lays(0, 2, 0, 3));
        check("lays(3, 1, 0, 3)", -11, x -> x.lays(3, 1, 0, 3));
        check("lays(1, 2, 2, 3)", -12, x -> x.lays(1, 2, 2, 3));
        check("lays(1, 2, -1, 3)", -12, x -> x.lays(1, 2, -1, 3));
    }

    // Numbers far outside in one place each: all of them are refused, and none throws.
    private static void wild() {
        for (int w : WILD) {
            check("dish(" + w + ")", BAD, x -> x.dish(w, 0, 1));
            check("dish, colour " + w, BAD, x -> x.dish(0, w, 1));
            check("dish, limit " + w, BAD, x -> x.dish(0, 0, w));
            check("price(" + w + ")", BAD, x -> x.price(w, 1));
            check("price, n " + w, BAD, x -> x.price(0, w));
            check("lay(" + w + ")", BAD, x -> x.lay(w));
            check("plate(" + w + ")", BAD, x -> x.plate(w, 0));
            check("plate, what " + w, BAD, x -> x.plate(0, w));
            check("at(" + w + ")", BAD, x -> x.at(w));
            check("gone(" + w + ")", BAD, x -> x.gone(w));
            check("seat(" + w + ")", BAD, x -> x.seat(w));
            check("guest(" + w + ")", BAD, x -> x.guest(w, 0, 0));
            check("guest, kind " + w, BAD, x -> x.guest(2, w, 0));
            check("seatTold(" + w + ")", BAD, x -> x.seatTold(w, 0));
            check("seatTold, what " + w, BAD, x -> x.seatTold(0, w));
            check("liking(" + w + ")", NO, x -> x.liking(w, 0));
            check("liking, plate " + w, NO, x -> x.liking(0, w));
            check("pays(" + w + ")", BAD, x -> x.pays(w, 0));
            check("putBack(" + w + ")", BAD, x -> x.putBack(w));
            check("feed(" + w + ")", BAD, x -> x.feed(w, 1));
            check("force(" + w + ")", BAD, x -> x.force(w));
            check("says(" + w + ")", NO, x -> x.says(w, 0, 0));
            check("says, plate " + w, NO, x -> x.says(0, w, 0));
            check("says, part " + w, NO, x -> x.says(0, 0, w));
            wildToo(w);
        }
    }

    private static void wildToo(int w) {
        check("tick(" + w + ")", BAD, x -> x.tick(w));
        check("order(" + w + ")", BAD, x -> x.order(w, 0));
        check("order, dish " + w, BAD, x -> x.order(0, w));
        check("lane(" + w + ")", BAD, x -> x.lane(w));
        check("empties(" + w + ")", BAD, x -> x.empties(w, 0));
        check("empties, what " + w, BAD, x -> x.empties(0, w));
        check("waste(" + w + ")", BAD, x -> x.waste(w));
        check("ahead(" + w + ")", BAD, x -> x.ahead(w, 0, 0));
        check("ahead, t " + w, BAD, x -> x.ahead(1, w, 0));
        check("ahead, i " + w, BAD, x -> x.ahead(3, 0, w));
        check("worth(" + w + ")", NO, x -> x.worth(w, 0));
        check("worth, t " + w, NO, x -> x.worth(1, w));
        check("piece(" + w + ")", BAD, x -> x.piece(w, 1));
        check("piece, n " + w, BAD, x -> x.piece(1, w));
        check("cut(" + w + ")", BAD, x -> x.cut(w, 0));
        check("count(" + w + ")", BAD, x -> x.count(w));
        check("sheet(" + w + ")", BAD, x -> x.sheet(w, 0, 1));
        check("cell(" + w + ")", BAD, x -> x.cell(w, 0, 1));
        check("cell, i " + w, -12, x -> x.cell(0, w, 1));
        check("lays(" + w + ")", BAD, x -> x.lays(w, 0, 0, 1));
        check("lays, sort " + w, BAD, x -> x.lays(0, w, 0, 1));
        check("lays, from " + w, -12, x -> x.lays(0, 1, w, 1));
        check("lays, n " + w, BAD, x -> x.lays(0, 1, 0, w));
        check("taken(" + w + ")", -11, x -> x.taken(w, 0));
        check("taken, k " + w, BAD, x -> x.taken(0, w));
    }

    private static void tellsAlone() {
        Due.by("calls that tell change nothing");
        check("at(0)", 6, x -> x.at(0));
        check("plate(1, 0)", 4, x -> x.plate(1, 0));
        check("seatTold(0, 2)", 2, x -> x.seatTold(0, 2));
        check("liking(0, 0)", 4, x -> x.liking(0, 0));
        check("says(0, 0, 0)", 1, x -> x.says(0, 0, 0));
        check("says(0, 0, 1)", 0, x -> x.says(0, 0, 1));
        check("lane(0)", 1, x -> x.lane(0));
        check("empties(4, 2)", 1, x -> x.empties(4, 2));
        check("cut(2, -1)", 15, x -> x.cut(2, -1));
        check("count(5)", 1, x -> x.count(5));
        check("taken(0, 5)", 2, x -> x.taken(0, 5));
        check("ahead(3, 24, 0)", 0, x -> x.ahead(3, 24, 0));
        check("worth(1, 0)", 100, x -> x.worth(1, 0));
    }

    private static void fullOfPlates() {
        Due.by("Refusals change nothing: FULL");
        check("lay(0)", FULL, x -> x.lay(0));
        check("order(0, 0)", FULL, x -> x.order(0, 0));
        check("seat(9)", FULL, x -> x.seat(9));
    }

    private static void fullOfTrays() {
        check("order(0, 0)", FULL, x -> x.order(0, 0));
    }

    private static void fullOfTexts() {
        check("text()", FULL, x -> x.text());
        check("feed(3, 1)", FULL, x -> x.feed(3, 1));
        check("feed(8, -1)", FULL, x -> x.feed(8, -1));
    }

    private static void fullOfTicks() {
        check("tick(3)", FULL, x -> x.tick(3));
        check("tick(60)", FULL, x -> x.tick(60));
        check("lays(0, 0, 0, 3)", FULL, x -> x.lays(0, 0, 0, 3));
    }
}
