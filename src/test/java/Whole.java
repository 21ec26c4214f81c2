import java.util.ArrayList;
import java.util.List;

/** All that an object tells, so that two objects, or two states, can be set side by side. */
final class Whole {
    private Whole() {
    }

    /** Up to 400 calls, the last of which change the object: it is of no use then. */
    static long[] told(PlateRound x) {
        List<Long> all = new ArrayList<>();
        int plates = x.count(1);
        int seats = x.count(2);
        for (int what = 0; what < 11; what++) {
            all.add((long) x.count(what));
        }
        for (int place = 0; place < 12; place++) {
            all.add((long) x.at(place));
            all.add((long) x.lane(place));
        }
        for (int seat = 0; seat < seats; seat++) {
            for (int what = 0; what < 8; what++) {
                all.add((long) x.seatTold(seat, what));
            }
            all.add(x.liking(seat, plates - 1));
            all.add(x.says(seat, plates - 1, 0));
            all.add(x.says(seat, plates - 1, 1));
        }
        for (int plate = Math.max(0, plates - 8); plate < plates; plate++) {
            for (int what = 0; what < 5; what++) {
                all.add((long) x.plate(plate, what));
            }
        }
        for (int colour = 0; colour < 5; colour++) {
            for (int what = 0; what < 7; what++) {
                all.add((long) x.empties(colour, what));
            }
        }
        all.add((long) x.cut(30, -1));
        change(x, seats, all);
        long[] row = new long[all.size()];
        for (int i = 0; i < row.length; i++) {
            row[i] = all.get(i);
        }
        return row;
    }

    // What is told only by a call that changes it.
    private static void change(PlateRound x, int seats, List<Long> all) {
        for (int seat = 0; seat < seats; seat++) {
            all.add((long) x.putBack(seat));
        }
        all.add((long) x.text());
        all.add((long) x.force(0));
        for (int colour = 0; colour < 5; colour++) {
            all.add((long) x.price(colour, 10 + colour));
        }
        for (int length = 1; length <= 6; length++) {
            all.add((long) x.piece(length, 1));
        }
        all.add((long) x.waste(1));
        for (int sheet = 0; sheet < 4; sheet++) {
            all.add((long) x.lays(sheet, 0, 39, 0));
            all.add((long) x.cell(sheet, 0, 9));
            all.add((long) x.cell(sheet, 39, 9));
        }
        for (int sort = 0; sort < 3; sort++) {
            all.add((long) x.lays(0, sort, 0, 8));
        }
        for (int i = 0; i < 6; i++) {
            all.add((long) x.lay(i));
            all.add((long) x.tick(1));
            all.add((long) x.empties(i % 5, 5));
        }
        for (int i = 0; i < 3; i++) {
            all.add((long) x.tick(8));
            for (int colour = 0; colour < 5; colour++) {
                all.add((long) x.empties(colour, 5));
            }
        }
        for (int dish = 0; dish < 6; dish++) {
            all.add((long) x.dish(dish, 0, 1));
        }
        for (int what = 0; what < 11; what++) {
            all.add((long) x.count(what));
        }
    }

    static void same(String when, long[] got, long[] want) {
        Due.is(when + ": how much is told", got.length, want.length);
        for (int i = 0; i < Math.min(got.length, want.length); i++) {
            Due.is(when + ": what is told at " + i, got[i], want[i]);
        }
    }
}
