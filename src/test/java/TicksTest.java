/** Promises 18 to 20: ticks, trays, the lane. */
public final class TicksTest {
    private static final String EAT_ALL = "take 1; go 0;";

    public static void main(String[] args) {
        refused();
        lastTick();
        eaten();
        waiting();
        oneATick();
        standing();
        noneGoesAhead();
        standingHoldsUp();
        sixteenWait();
        ages();
        leavingInOrder();
        laneRefused();
        Due.end();
    }

    private static PlateRound ruled(String text, int... places) {
        PlateRound x = new PlateRound(2);
        for (int place : places) {
            x.seat(place);
        }
        Due.rule(x, text);
        return x;
    }

    private static void lane(PlateRound x, int... due) {
        for (int cell = 0; cell < due.length; cell++) {
            Due.is("lane(" + cell + ")", x.lane(cell), due[cell]);
        }
    }

    private static void refused() {
        PlateRound x = new PlateRound(0);
        Due.is("tick(0)", x.tick(0), PlateRound.BAD);
        Due.is("tick(61)", x.tick(61), PlateRound.BAD);
        Due.is("tick(-1)", x.tick(-1), PlateRound.BAD);
        Due.is("no tick", x.count(4), 0);
        Due.is("tick(60)", x.tick(60), 0);
        Due.is("ticks", x.count(4), 60);
        x.seat(1);
        Due.is("order(1, 0)", x.order(1, 0), PlateRound.BAD);
        Due.is("order(-1, 0)", x.order(-1, 0), PlateRound.BAD);
        Due.is("order(0, 6)", x.order(0, 6), PlateRound.BAD);
        Due.is("order(0, -1)", x.order(0, -1), PlateRound.BAD);
        Due.is("nobody sits there", x.order(0, 0), PlateRound.STATE);
        Due.is("BAD is ahead of STATE", x.order(0, 6), PlateRound.BAD);
        Due.is("no plate", x.count(1), 0);
    }

    private static void lastTick() {
        PlateRound x = new PlateRound(0);
        for (int i = 0; i < 166; i++) {
            Due.is("tick(60)", x.tick(60), 0);
        }
        Due.is("ticks", x.count(4), 9960);
        PlateRound y = new PlateRound(0);
        for (int i = 0; i < 166; i++) {
            y.tick(60);
        }
        Due.is("to 9999", y.tick(39), 0);
        Due.is("ticks", y.count(4), 9999);
        Due.is("beyond 9999", y.tick(1), PlateRound.FULL);
        Due.is("beyond 9999", x.tick(40), PlateRound.FULL);
        Due.is("BAD is ahead of FULL", x.tick(61), PlateRound.BAD);
        Due.is("ticks", x.count(4), 9960);
        x.seat(1);
        x.guest(0, 0, 0);
        x.sheet(0, 0, 40);
        x.tick(30);
        Due.is("lays beyond 9999", x.lays(0, 0, 0, 10), PlateRound.FULL);
        Due.is("FULL is ahead of -13", x.lays(0, 1, 0, 10), PlateRound.FULL);
        Due.is("FULL is ahead of -11", x.lays(1, 0, 0, 10), PlateRound.FULL);
        Due.is("FULL is ahead of -12", x.lays(0, 0, 40, 10), PlateRound.FULL);
        Due.is("nothing was laid", x.count(1), 0);
        Due.is("lays to 9999", x.lays(0, 0, 0, 9), 7);
        Due.is("ticks", x.count(4), 9999);
        Due.is("no tick more", x.tick(1), PlateRound.FULL);
        Due.is("lays of none", x.lays(0, 0, 0, 0), 0);
        x.order(0, 1);
        Due.is("ahead goes on", x.worth(1, 9), 200);
    }

    private static void eaten() {
        PlateRound x = ruled(EAT_ALL, 1, 2, 3);
        x.guest(0, 0, 0);
        x.guest(2, 0, 0);
        x.lay(0);
        Due.is("one is eaten", x.tick(1), 1);
        x.order(2, 0);
        x.order(0, 0);
        x.order(2, 0);
        Due.is("none is", x.tick(1), 0);
        Due.is("none is", x.tick(1), 0);
        x.lay(1);
        Due.is("the tray ahead of the belt", x.tick(1), 1);
        Due.is("it rides on", x.at(1), 4);
        Due.is("a tray", x.tick(1), 1);
        Due.is("the one that rode on", x.tick(1), 1);
        Due.is("the last tray", x.tick(1), 1);
        Due.is("of seat 0", x.seatTold(0, 5), 2);
        Due.is("of seat 2", x.seatTold(2, 5), 3);
        x.lay(0);
        x.tick(1);
        x.lay(0);
        x.order(2, 5);
        Due.is("many in many ticks", x.tick(6), 2);
        Due.is("none is left", x.tick(60), 0);
    }

    private static void waiting() {
        PlateRound x = ruled("take waited = 2; go waited = 5;", 1);
        x.guest(0, 0, 0);
        for (int i = 0; i < 3; i++) {
            Due.is("waited", x.seatTold(0, 3), i);
            x.lay(0);
            Due.is("taken behind two ticks", x.tick(1), i == 2 ? 1 : 0);
        }
        Due.is("waited 0 again", x.seatTold(0, 3), 0);
        x.order(0, 0);
        x.tick(1);
        Due.is("waited", x.seatTold(0, 3), 1);
        x.tick(1);
        Due.is("a tray, too", x.seatTold(0, 3), 0);
        x.gone(3);
        x.gone(4);
        x.tick(4);
        Due.is("waited", x.seatTold(0, 3), 4);
        x.tick(1);
        Due.is("left as it waited 5", x.seatTold(0, 3), -1);
    }

    private static void oneATick() {
        PlateRound x = ruled(EAT_ALL, 4, 2, 6);
        x.guest(0, 0, 0);
        x.guest(1, 0, 0);
        x.guest(2, 0, 0);
        for (int i = 0; i < 3; i++) {
            x.lay(i);
            x.tick(1);
        }
        Due.is("the first is at seat 1", x.seatTold(1, 2), 2);
        Due.is("nothing came by", x.seatTold(0, 2), 0);
        x.tick(1);
        Due.is("all are taken", x.seatTold(1, 2), 3);
        x.order(2, 0);
        x.order(0, 1);
        x.order(1, 2);
        Due.is("the last one is the first there", x.tick(5), 1);
        Due.is("seat 1", x.plate(5, 4), 1);
        Due.is("on the way", x.plate(4, 4), 3);
        Due.is("on the way", x.plate(3, 4), 4);
        Due.is("the next", x.tick(1), 1);
        Due.is("seat 0", x.plate(4, 3), 2);
        Due.is("seat 0", x.plate(4, 4), 0);
        Due.is("the last", x.tick(1), 1);
        Due.is("seat 2", x.plate(3, 4), 2);
    }

    private static void standing() {
        PlateRound x = ruled("take 0; go eaten;", 3);
        x.guest(0, 0, 0);
        x.order(0, 0);
        x.order(0, 1);
        x.order(0, 2);
        lane(x, -1, -1, -1, -1);
        Due.is("three wait", x.count(6), 3);
        x.tick(3);
        lane(x, 0, 0, 0, -1);
        Due.is("none waits", x.count(6), 0);
        Due.is("eaten as it comes over the seat", x.tick(1), 1);
        lane(x, -1, 0, 0, -1);
        Due.is("the guest left", x.seatTold(0, 1), -1);
        x.tick(1);
        lane(x, -1, -1, 0, 0);
        Due.is("over an empty seat", x.plate(1, 4), 3);
        x.guest(0, 2, 0);
        Due.is("it stood, and is eaten", x.tick(1), 1);
        Due.is("by the new guest", x.count(7), 200);
        Due.is("the one behind went on", x.plate(2, 4), 2);
        x.tick(1);
        Due.is("over an empty seat", x.plate(2, 4), 3);
        Due.is("age", x.plate(2, 2), 4);
        x.tick(1);
        Due.is("thrown", x.plate(2, 3), 4);
        Due.is("thrown", x.plate(2, 4), -1);
        Due.is("a tick older", x.plate(2, 2), 5);
        lane(x, -1, -1, -1, -1);
        Due.is("no tray", x.count(5), 0);
        Due.is("a standing one is no plate of the belt", x.at(3), -1);
    }

    private static void noneGoesAhead() {
        PlateRound x = ruled(EAT_ALL, 2, 5);
        x.guest(0, 0, 0);
        x.guest(1, 0, 0);
        x.order(1, 0);
        x.order(0, 0);
        x.order(1, 0);
        x.tick(3);
        lane(x, 1, 0, 1, -1);
        x.tick(1);
        lane(x, -1, 1, -1, 1);
        Due.is("the near one is eaten", x.seatTold(0, 2), 1);
        x.tick(2);
        lane(x, -1, -1, -1, 1, -1, -1);
        Due.is("the far one is eaten", x.seatTold(1, 2), 1);
    }

    private static void standingHoldsUp() {
        PlateRound x = ruled("take 0; go eaten = 1 or eaten = 2 and room < 4;", 1, 4);
        x.guest(0, 0, 0);
        x.guest(1, 1, 0);
        x.order(0, 0);
        x.order(0, 1);
        x.order(1, 2);
        x.order(1, 3);
        x.tick(2);
        Due.is("seat 0 is left", x.seatTold(0, 1), -1);
        lane(x, 0, -1, -1, -1);
        x.tick(1);
        lane(x, 1, 0, -1, -1);
        x.guest(0, 2, 0);
        Due.is("it is eaten by the next", x.tick(1), 1);
        Due.is("none had room to go on", x.lane(0), 1);
        lane(x, 1, -1, -1, -1);
        x.tick(1);
        lane(x, 1, 1, -1, -1);
        Due.is("seat 0 is left again", x.seatTold(0, 1), -1);
        Due.is("taken from the first to the last", x.plate(3, 4), 0);
    }

    private static void sixteenWait() {
        PlateRound x = ruled(EAT_ALL, 7);
        x.guest(0, 2, 0);
        for (int i = 0; i < 16; i++) {
            Due.is("order", x.order(0, i % 6), i);
            Due.is("it waits", x.plate(i, 4), -1);
        }
        Due.is("16 wait", x.order(0, 0), PlateRound.FULL);
        Due.is("BAD is ahead of FULL", x.order(0, 6), PlateRound.BAD);
        Due.is("no plate was made", x.count(1), 16);
        x.tick(1);
        Due.is("15 wait", x.count(6), 15);
        Due.is("the first came", x.plate(0, 4), 0);
        Due.is("one more", x.order(0, 0), 16);
        Due.is("16 wait", x.order(0, 0), PlateRound.FULL);
        Due.is("eight in the lane, one eaten of them", x.tick(7), 1);
        Due.is("seven in the lane", x.count(5), 7);
        for (int cell = 0; cell < 7; cell++) {
            Due.is("in their order", x.plate(7 - cell, 4), cell);
        }
        Due.is("nine wait", x.count(6), 9);
        Due.is("all", x.tick(17), 16);
    }

    private static void ages() {
        PlateRound x = ruled(EAT_ALL, 3);
        x.guest(0, 0, 0);
        x.dish(0, 0, 1);
        x.order(0, 0);
        x.order(0, 0);
        x.tick(1);
        Due.is("it came in this tick", x.plate(0, 2), 0);
        x.tick(1);
        Due.is("in the lane", x.plate(0, 2), 1);
        Due.is("it came later", x.plate(1, 2), 0);
        x.tick(2);
        Due.is("eaten", x.plate(0, 3), 2);
        Due.is("as old as it was", x.plate(0, 2), 3);
        x.tick(5);
        Due.is("eaten it grows no older", x.plate(0, 2), 3);
        Due.is("no limit for trays", x.plate(1, 3), 2);
    }

    private static void leavingInOrder() {
        PlateRound x = ruled("take 1; go eaten;", 2, 1);
        x.guest(0, 0, 0);
        x.guest(1, 0, 0);
        x.pays(1, 0);
        x.price(0, 1);
        x.price(1, 10);
        x.lay(0);
        x.force(0);
        x.tick(1);
        x.lay(1);
        x.force(1);
        x.tick(1);
        Due.is("both left, seat 0 first", x.count(3), 0);
        Due.is("each paid", x.count(7), 11);
        x.guest(0, 0, 0);
        x.guest(1, 0, 0);
        Due.is("nobody pays for the new guest", x.seatTold(1, 7), -1);
    }

    private static void laneRefused() {
        PlateRound x = new PlateRound(3);
        Due.is("lane(-1)", x.lane(-1), PlateRound.BAD);
        Due.is("lane(9)", x.lane(9), PlateRound.BAD);
        Due.is("lane(8)", x.lane(8), PlateRound.NONE);
        Due.is("lane(0)", x.lane(0), PlateRound.NONE);
    }
}
