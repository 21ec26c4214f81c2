/** Promises 8 to 13 and 31: seats, kinds of guests, bills, who pays, putting back. */
public final class SeatsTest {
    private static final String EAT_ALL = "take 1; go 0;";

    public static void main(String[] args) {
        seats();
        guests();
        rooms();
        likings();
        ageAndWaiting();
        babies();
        paysRefused();
        paysAtLeaving();
        paysInARow();
        payerLeavesFirst();
        payerLeaves();
        bills();
        puttingBack();
        puttingBackRefused();
        taken();
        Due.end();
    }

    private static PlateRound withSeats(int number, int seats) {
        PlateRound x = new PlateRound(number);
        for (int place = 1; place <= seats; place++) {
            x.seat(place);
        }
        return x;
    }

    private static void told(PlateRound x, int seat, int... due) {
        for (int what = 0; what < due.length; what++) {
            Due.is("seatTold(" + seat + ", " + what + ")", x.seatTold(seat, what), due[what]);
        }
    }

    private static void seats() {
        PlateRound x = new PlateRound(6);
        Due.is("the hatch", x.seat(0), PlateRound.BAD);
        Due.is("seat(-1)", x.seat(-1), PlateRound.BAD);
        Due.is("seat(12)", x.seat(12), PlateRound.BAD);
        for (int i = 0; i < 8; i++) {
            Due.is("a seat", x.seat(11 - i), i);
            Due.is("a place that has one", x.seat(11 - i), PlateRound.BAD);
        }
        Due.is("a ninth seat", x.seat(3), PlateRound.FULL);
        Due.is("BAD is ahead of FULL", x.seat(11), PlateRound.BAD);
        Due.is("BAD is ahead of FULL", x.seat(0), PlateRound.BAD);
        Due.is("count(2)", x.count(2), 8);
        told(x, 7, 4, -1, -1, -1, -1, 0, 0, -1);
        Due.is("seatTold(8, 0)", x.seatTold(8, 0), PlateRound.BAD);
        Due.is("seatTold(-1, 0)", x.seatTold(-1, 0), PlateRound.BAD);
        Due.is("seatTold(0, -1)", x.seatTold(0, -1), PlateRound.BAD);
        Due.is("seatTold(0, 8)", x.seatTold(0, 8), PlateRound.BAD);
    }

    private static void guests() {
        PlateRound x = withSeats(0, 2);
        int[][] bad = {{-1, 0, 0}, {2, 0, 0}, {0, -1, 0}, {0, 6, 0}, {0, 0, -1}, {0, 0, 1000000}};
        for (int[] b : bad) {
            Due.is("bad guest", x.guest(b[0], b[1], b[2]), PlateRound.BAD);
        }
        Due.is("nobody sits", x.count(3), 0);
        Due.is("guest", x.guest(0, 5, 999999), 1);
        Due.is("a second one", x.guest(0, 0, 0), PlateRound.STATE);
        Due.is("BAD is ahead of STATE", x.guest(0, 6, 0), PlateRound.BAD);
        Due.is("BAD is ahead of STATE", x.guest(0, 0, -1), PlateRound.BAD);
        Due.is("guest", x.guest(1, 3, 0), 1);
        told(x, 0, 1, 5, 0, 0, 2, 0, 0, -1);
        told(x, 1, 2, 3, 0, 0, 6, 0, 0, -1);
        Due.is("guests", x.count(3), 2);
    }

    private static void rooms() {
        int[] rooms = {6, 3, 10, 6, 9, 2};
        for (int kind = 0; kind < 6; kind++) {
            PlateRound x = withSeats(0, 1);
            x.guest(0, kind, 0);
            Due.is("kind", x.seatTold(0, 1), kind);
            Due.is("room of kind " + kind, x.seatTold(0, 4), rooms[kind]);
            Due.rule(x, "take 1; go room;");
            Due.is("go room", x.says(0, -1, 1), rooms[kind]);
        }
    }

    private static void likings() {
        int[][] due = {{1, 2, 3, 4, 5, 6}, {3, 2, 3, 4, 5, 6}, {2, 3, 4, 5, 6, 7},
            {1, 2, 3, 4, 5, 6}, {2, 3, 4, 5, 6, 7}, {3, 2, 3, 4, 5, 6}};
        PlateRound x = new PlateRound(6);
        for (int dish = 0; dish < 6; dish++) {
            x.lay(dish);
            x.gone(0);
        }
        for (int kind = 0; kind < 6; kind++) {
            x.seat(kind + 1);
            Due.is("nobody likes", x.liking(kind, 0), PlateRound.NO);
            x.guest(kind, kind, 654321);
            for (int dish = 0; dish < 6; dish++) {
                Due.is("kind " + kind + " likes " + dish, x.liking(kind, dish), due[kind][dish]);
            }
        }
        for (int dish = 0, tens = 1; dish < 6; dish++, tens *= 10) {
            PlateRound y = withSeats(0, 2);
            y.guest(0, 0, 9 * tens);
            y.guest(1, 0, tens);
            for (int other = 0; other < 6; other++) {
                y.lay(other);
                y.gone(0);
                Due.is("likes of a digit alone", y.liking(0, other), other == dish ? 9 : 0);
                Due.is("likes of a digit alone", y.liking(1, other), other == dish ? 1 : 0);
            }
        }
        x.seat(7);
        x.guest(6, 0, 7);
        Due.is("the lowest digit is dish 0's", x.liking(6, 0), 7);
        Due.is("no digit is 0", x.liking(6, 5), 0);
        Due.is("no such seat", x.liking(7, 0), PlateRound.NO);
        Due.is("no such seat", x.liking(-1, 0), PlateRound.NO);
        Due.is("no such plate", x.liking(0, 6), PlateRound.NO);
        Due.is("no such plate", x.liking(0, -1), PlateRound.NO);
    }

    private static void ageAndWaiting() {
        PlateRound x = withSeats(0, 3);
        Due.rule(x, "take 0; go 0;");
        x.dish(0, 0, 60);
        x.lay(0);
        x.guest(0, 3, 2);
        x.guest(1, 4, 2);
        x.guest(2, 2, 2);
        int[] ages = {3, 4, 7, 8, 12, 16};
        int[] picky = {2, 1, 1, 0, -1, -2};
        int[] late = {3, 3, 4, 4, 5, 6};
        int now = 0;
        for (int i = 0; i < ages.length; i++) {
            x.tick(ages[i] - now);
            now = ages[i];
            Due.is("picky at " + now, x.liking(0, 0), picky[i]);
            Due.is("late at " + now, x.liking(1, 0), late[i]);
            Due.is("hungry at " + now, x.liking(2, 0), 3);
            Due.is("waited", x.seatTold(1, 3), now);
        }
    }

    private static void babies() {
        PlateRound x = withSeats(0, 2);
        Due.rule(x, EAT_ALL);
        x.guest(0, 5, 4);
        x.guest(1, 1, 4);
        int[] due = {6, 6, 4};
        for (int eaten = 0; eaten < 3; eaten++) {
            x.lay(0);
            Due.is("a baby that ate " + eaten, x.liking(0, eaten), due[eaten]);
            Due.is("of another dish", x.seatTold(0, 2), eaten);
            x.tick(1);
        }
        Due.is("a child", x.liking(1, 0), 6);
        Due.is("put back", x.putBack(0), 2);
        Due.is("a baby that ate 2", x.liking(0, 0), 4);
    }

    private static void paysRefused() {
        PlateRound x = withSeats(0, 3);
        x.guest(0, 0, 0);
        x.guest(1, 0, 0);
        int[][] bad = {{-1, 0}, {3, 0}, {0, 3}, {0, -2}, {0, 0}, {-1, -1}, {2, 2}};
        for (int[] b : bad) {
            Due.is("bad pays(" + b[0] + ", " + b[1] + ")", x.pays(b[0], b[1]), PlateRound.BAD);
        }
        Due.is("nobody at a", x.pays(2, 0), -5);
        Due.is("nobody at b", x.pays(0, 2), -5);
        Due.is("nobody at a, b nobody", x.pays(2, -1), -5);
        Due.is("pays(0, 1)", x.pays(0, 1), PlateRound.NONE);
        told(x, 0, 1, 0, 0, 0, 6, 0, 0, 1);
        told(x, 1, 2, 0, 0, 0, 6, 0, 0, -1);
        x.guest(2, 0, 0);
        Due.is("told anew", x.pays(0, 2), 1);
        Due.is("told to nobody", x.pays(0, -1), 2);
        Due.is("and again", x.pays(0, -1), -1);
    }

    private static void paysAtLeaving() {
        PlateRound x = withSeats(0, 3);
        Due.rule(x, "take 1; go eaten = 2;");
        x.guest(0, 0, 0);
        x.guest(1, 0, 0);
        x.guest(2, 0, 0);
        x.pays(0, 2);
        x.pays(1, 0);
        x.lay(0);
        x.tick(1);
        x.lay(1);
        x.tick(1);
        told(x, 0, 1, -1, -1, -1, -1, 0, 0, -1);
        told(x, 1, 2, 0, 0, 2, 6, 0, 0, -1);
        told(x, 2, 3, 0, 0, 2, 6, 2, 200, -1);
        Due.is("nothing is paid", x.count(7), 0);
        Due.is("on the bill of 2", x.plate(0, 4), 2);
        Due.is("on the bill of 2", x.plate(1, 4), 2);
        x.price(1, 11);
        Due.is("what they come to now", x.seatTold(2, 6), 111);
        x.guest(0, 0, 0);
        told(x, 0, 1, 0, 0, 0, 6, 0, 0, -1);
        x.order(2, 2);
        x.order(2, 2);
        x.tick(5);
        Due.is("paid", x.count(7), 311);
        told(x, 2, 3, -1, -1, -1, -1, 0, 0, -1);
        for (int plate = 0; plate < 4; plate++) {
            Due.is("is paid", x.plate(plate, 3), 3);
            Due.is("is on no bill", x.plate(plate, 4), -1);
        }
    }

    private static void paysInARow() {
        PlateRound x = withSeats(0, 3);
        Due.rule(x, "take 1; go eaten + waited = 1;");
        x.guest(0, 0, 0);
        x.guest(1, 0, 0);
        x.guest(2, 0, 0);
        x.pays(0, 1);
        x.pays(1, 2);
        x.pays(2, 0);
        x.lay(3);
        x.tick(1);
        Due.is("all left", x.count(3), 0);
        Due.is("the last one paid all", x.count(7), 100);
        Due.is("paid", x.plate(0, 3), 3);
    }

    private static void payerLeavesFirst() {
        PlateRound x = withSeats(0, 2);
        Due.rule(x, "take 1; go 1;");
        x.guest(0, 0, 0);
        x.guest(1, 0, 0);
        x.pays(1, 0);
        x.price(0, 3);
        x.order(1, 0);
        x.force(0);
        x.tick(2);
        x.force(1);
        x.tick(1);
        Due.is("paid by itself", x.count(7), 3);
        Due.is("nobody is there", x.count(3), 0);
        Due.is("nothing came to the empty seat", x.seatTold(0, 5), 0);
    }

    private static void payerLeaves() {
        PlateRound x = withSeats(0, 4);
        Due.rule(x, "take 0; go eaten;");
        for (int seat = 0; seat < 4; seat++) {
            x.guest(seat, 0, 0);
        }
        x.pays(0, 2);
        x.pays(1, 2);
        x.pays(3, 2);
        x.pays(2, 1);
        x.order(2, 0);
        x.tick(4);
        Due.is("seat 2 is left", x.seatTold(2, 1), -1);
        int[] payers = {-1, -1, -1, -1};
        for (int seat = 0; seat < 4; seat++) {
            Due.is("the payer of " + seat, x.seatTold(seat, 7), payers[seat]);
        }
        Due.is("seat 1 has its bill", x.seatTold(1, 6), 100);
        x.guest(2, 0, 0);
        Due.is("pays for nobody", x.pays(0, 2), -1);
        x.order(1, 1);
        x.tick(3);
        Due.is("seat 1 pays both", x.count(7), 200);
        Due.is("others pay still", x.seatTold(0, 7), 2);
    }

    private static void bills() {
        PlateRound x = withSeats(0, 1);
        Due.rule(x, EAT_ALL);
        x.guest(0, 2, 0);
        x.price(2, 1);
        x.price(4, 20);
        x.order(0, 4);
        x.tick(1);
        x.lay(2);
        x.tick(1);
        Due.is("the tray ahead of the belt", x.plate(0, 3), 2);
        Due.is("the belt's rides on", x.at(1), 1);
        told(x, 0, 1, 2, 1, 0, 10, 1, 20, -1);
        x.lay(5);
        x.tick(1);
        told(x, 0, 1, 2, 2, 0, 10, 2, 120, -1);
        x.tick(4);
        told(x, 0, 1, 2, 2, 4, 10, 2, 120, -1);
        x.tick(1);
        told(x, 0, 1, 2, 3, 0, 10, 3, 121, -1);
        x.dish(2, 4, 20);
        Due.is("its colour as it was made", x.seatTold(0, 6), 121);
        x.price(2, 999);
        Due.is("its price as it is now", x.seatTold(0, 6), 1119);
        Due.is("nothing is paid yet", x.count(7), 0);
        x.text();
        Due.is("text 2", Due.text(x, "take 0; go 1;"), 2);
        x.force(2);
        x.tick(1);
        Due.is("paid", x.count(7), 1119);
        x.price(2, 1);
        Due.is("paid it stands", x.count(7), 1119);
        x.guest(0, 0, 0);
        told(x, 0, 1, 0, 0, 0, 6, 0, 0, -1);
    }

    private static void puttingBack() {
        PlateRound x = withSeats(0, 2);
        Due.rule(x, EAT_ALL);
        x.guest(0, 0, 0);
        x.lay(1);
        x.tick(1);
        told(x, 0, 1, 0, 1, 0, 6, 1, 100, -1);
        Due.is("put back", x.putBack(0), 0);
        told(x, 0, 1, 0, 0, 0, 6, 0, 0, -1);
        Due.is("it is on the belt", x.plate(0, 3), 0);
        Due.is("at the seat", x.plate(0, 4), 1);
        Due.is("at the seat", x.at(1), 0);
        Due.is("no older", x.plate(0, 2), 1);
        Due.is("once", x.putBack(0), PlateRound.STATE);
        x.guest(1, 0, 0);
        x.tick(1);
        Due.is("the other one took it", x.seatTold(1, 2), 1);
        Due.is("waited on", x.seatTold(0, 3), 1);
        Due.is("not this one", x.putBack(0), PlateRound.STATE);
        Due.is("but that one", x.putBack(1), 0);
        x.tick(1);
        Due.is("it rides on", x.at(3), 0);
        Due.is("a tick older", x.plate(0, 2), 3);
        x.tick(4);
        Due.is("taken again", x.plate(0, 4), 0);
        Due.is("put back again", x.putBack(0), 0);
        x.gone(1);
        Due.is("once, though its place is free", x.putBack(0), PlateRound.STATE);
        Due.is("it is gone", x.plate(0, 3), 5);
        Due.is("eaten", x.seatTold(0, 2), 0);
    }

    private static void puttingBackRefused() {
        PlateRound x = withSeats(0, 2);
        Due.rule(x, EAT_ALL);
        Due.is("putBack(2)", x.putBack(2), PlateRound.BAD);
        Due.is("putBack(-1)", x.putBack(-1), PlateRound.BAD);
        Due.is("nobody sits there", x.putBack(0), PlateRound.STATE);
        x.guest(0, 0, 0);
        Due.is("nothing was taken", x.putBack(0), PlateRound.STATE);
        x.lay(1);
        x.tick(1);
        x.tick(1);
        Due.is("behind another tick", x.putBack(0), PlateRound.STATE);
        Due.is("it is eaten", x.plate(0, 3), 2);
        x.lay(1);
        x.tick(2);
        Due.is("not the latest of these", x.putBack(0), PlateRound.STATE);
        x.order(0, 3);
        x.tick(2);
        Due.is("the tray's is eaten", x.plate(2, 3), 2);
        Due.is("a tray brought it", x.putBack(0), PlateRound.STATE);
        Due.is("text 2", Due.text(x, "take 1; go eaten = 4;"), 2);
        x.force(2);
        x.lay(5);
        x.tick(1);
        Due.is("taken and gone", x.seatTold(0, 1), -1);
        Due.is("nobody sits there", x.putBack(0), PlateRound.STATE);
        x.guest(0, 0, 0);
        Due.is("somebody else sits there", x.putBack(0), PlateRound.STATE);
        x.lay(5);
        x.tick(1);
        x.ahead(3, 3, 0);
        Due.is("looking ahead is no tick", x.putBack(0), 4);
    }

    private static void taken() {
        boolean[][] under = new boolean[6][6];
        int[][] pairs = {{0, 0}, {1, 0}, {1, 1}, {2, 0}, {2, 2}, {3, 0}, {3, 3}, {4, 0}, {4, 2}, {4, 4},
            {5, 0}, {5, 1}, {5, 5}};
        for (int[] pair : pairs) {
            under[pair[0]][pair[1]] = true;
        }
        PlateRound x = withSeats(6, 8);
        for (int kind = 0; kind < 6; kind++) {
            Due.is("nobody", x.taken(kind, 0), -11);
            x.guest(kind, kind, 0);
            for (int k = 0; k < 6; k++) {
                Due.is(kind + " taken for " + k, x.taken(kind, k), under[kind][k] ? 0 : -13);
            }
            Due.is("k -1", x.taken(kind, -1), PlateRound.BAD);
            Due.is("k 6", x.taken(kind, 6), PlateRound.BAD);
        }
        Due.is("no such seat", x.taken(8, 0), -11);
        Due.is("no such seat", x.taken(-1, 0), -11);
        Due.is("BAD is ahead of -11", x.taken(8, 6), PlateRound.BAD);
        Due.rule(x, EAT_ALL);
        x.order(5, 0);
        x.order(5, 0);
        x.tick(9);
        Due.is("eaten", x.taken(5, 1), 2);
        Due.is("eaten", x.taken(5, 0), 2);
        Due.is("not of that kind", x.taken(5, 2), -13);
    }
}
