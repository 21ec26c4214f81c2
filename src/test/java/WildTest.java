/** Any numbers in any call, in any state: no call throws, and none fails to end. */
public final class WildTest {
    private static final int[] EDGES = {Integer.MIN_VALUE, Integer.MIN_VALUE + 1, -1000001, -1000, -101, -15, -7, -6, -5, -4, -3,
        -2, -1, 7, 8, 9, 10, 11, 12, 15, 16, 17, 20, 23, 24, 25, 29, 30, 31, 39, 40, 41, 59, 60, 61, 159, 160, 161, 255, 256, 299,
        300, 301, 511, 998, 999, 1000, 9998, 9999, 10000, 999999, 1000000, Integer.MAX_VALUE - 1, Integer.MAX_VALUE};
    private static final String SIGNS = "take go ; like ( not - 1 < or and = + * price ) ; 9999 ; waited ; eaten room age \n";

    private long seed;
    private PlateRound x;

    public static void main(String[] args) {
        for (int run = 0; run < 400; run++) {
            new WildTest().run(run);
        }
        Due.end();
    }

    private int any(int bound) {
        seed = seed * 6364136223846793005L + 1442695040888963407L;
        return (int) ((seed >>> 33) % bound);
    }

    // Mostly a small number, as most calls want one.
    private int w() {
        return any(5) == 0 ? EDGES[any(EDGES.length)] : any(7);
    }

    private void run(int number) {
        seed = number * 31L + 7;
        x = new PlateRound(w() + w());
        for (int i = 0; i < 8 && number % 3 > 0; i++) {
            x.seat(i + 1);
            x.guest(i, i % 6, 111111 * i);
        }
        for (int made = 17; made < 512; made++) {
            call(any(number % 2 == 0 ? 28 : 33));
        }
    }

    private void call(int which) {
        switch (which) {
            case 0: x.dish(w(), w(), w()); break;
            case 1: x.price(w(), w()); break;
            case 2: x.lay(w()); break;
            case 3: x.plate(w(), w()); break;
            case 4: x.at(w()); break;
            case 5: x.gone(w()); break;
            case 6: x.seat(w()); break;
            case 7: x.guest(w(), w(), w()); break;
            case 8: x.seatTold(w(), w()); break;
            case 9: x.liking(w(), w()); break;
            case 10: x.pays(w(), w()); break;
            case 11: x.putBack(w()); break;
            case 12: x.feed(w(), (long) w() << 32 | w()); break;
            case 13: x.text(); break;
            case 14: x.force(w()); break;
            case 15: x.says(w(), w(), w()); break;
            case 16: x.tick(w()); break;
            default: callMore(which); break;
        }
    }

    private void callMore(int which) {
        switch (which) {
            case 17: x.order(w(), w()); break;
            case 18: x.lane(w()); break;
            case 19: x.empties(w(), w()); break;
            case 20: x.waste(w()); break;
            case 21: x.piece(w(), w()); break;
            case 22: x.cut(w(), w()); break;
            case 23: x.count(w()); break;
            case 24: x.sheet(w(), w(), w()); break;
            case 25: x.cell(w(), w(), w()); break;
            case 26: x.lays(w(), w(), w(), w()); break;
            case 27: x.taken(w(), w()); break;
            case 28: x.ahead(w() % 3, w(), w()); break;
            case 29: x.worth(w() % 3, w()); break;
            default:
                int from = any(SIGNS.length() - 8);
                x.feed(8, Due.packed(SIGNS, from, 8));
                break;
        }
    }
}
