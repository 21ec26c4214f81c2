/**
 * Part 4 of the terms and promises 18 to 20: a test for each sentence that names an edge.
 * Due.by() has the sentence's words.
 */
public final class EdgesOfTicksTest {
    private static final int MIN = Integer.MIN_VALUE, MAX = Integer.MAX_VALUE;
    private static final int BAD = PlateRound.BAD, NONE = PlateRound.NONE, STATE = PlateRound.STATE, FULL = PlateRound.FULL;
    private static final String EAT_ALL = "take 1; go 0;", TRAYS_ALONE = "take 0; go 0;";

    public static void main(String[] args) {
        tickOutside();
        beyond9999();
        beyond9999ByMany();
        tickBadAheadOfFull();
        tellsEatenOfAllTicks();
        fullBeltTurns();
        emptyBeltTurns();
        thrownAheadOfGuests();
        laneOutside();
        laneEmpty();
        laneTellsTheSeat();
        lastCell();
        firstCellForPlaceOne();
        overItsSeatNobody();
        comesOverAnEmptySeat();
        elseItStands();
        goesOnIfFree();
        fromTheGreatestCellDown();
        cellThatBecameFree();
        overAnotherSeat();
        cellZeroTaken();
        oneTrayATick();
        waitsLongestFirst();
        sixteenWait();
        sixteenWaitNotTheLane();
        orderBad();
        orderState();
        orderBadAheadOfState();
        orderStateAheadOfFull();
        trayOlderAsItBegins();
        waitingTrayNoOlder();
        noLimitOnTrays();
        trayAheadOfBelt();
        trayThatIsNotForIt();
        trayWithoutTake();
        takeIsZero();
        onePlateATick();
        waitedZeroByATray();
        waitedOneMore();
        eatsBeyondRoom();
        goBehindEating();
        leaveBySeats();
        newGuestByTheOldOnesTray();
        Due.end();
    }

    // Guests of kind 0 sit at all these places.
    private static PlateRound ruled(String text, int... places) {
        PlateRound x = new PlateRound(6);
        for (int seat = 0; seat < places.length; seat++) {
            x.seat(places[seat]);
            x.guest(seat, 0, 0);
        }
        Due.rule(x, text);
        return x;
    }

    private static void lane(PlateRound x, int... due) {
        for (int cell = 0; cell < due.length; cell++) {
            Due.is("lane(" + cell + ")", x.lane(cell), due[cell]);
        }
    }

    private static void tickOutside() {
        Due.by("promise 18: n TICKS (1 .. 60). BAD");
        PlateRound x = new PlateRound(0);
        for (int n : new int[] {0, 61, -1, MIN, MAX}) {
            Due.is("tick(" + n + ")", x.tick(n), BAD);
        }
        Due.is("ticks", x.count(4), 0);
        Due.is("tick(1)", x.tick(1), 0);
        Due.is("ticks", x.count(4), 1);
        Due.is("tick(60)", x.tick(60), 0);
        Due.is("ticks", x.count(4), 61);
    }

    private static PlateRound aged(int ticks) {
        PlateRound x = new PlateRound(0);
        for (int left = ticks; left > 0; left -= 60) {
            x.tick(Math.min(60, left));
        }
        Due.is("ticks", x.count(4), ticks);
        return x;
    }

    private static void beyond9999() {
        Due.by("promise 18: FULL: beyond 9999");
        PlateRound x = aged(9998);
        Due.is("the last one", x.tick(1), 0);
        Due.is("ticks", x.count(4), 9999);
        Due.is("one more", x.tick(1), FULL);
        Due.is("sixty more", x.tick(60), FULL);
        Due.is("ticks", x.count(4), 9999);
    }

    private static void beyond9999ByMany() {
        Due.by("promise 18: FULL: beyond 9999 (no TICK of these goes by)");
        PlateRound x = aged(9950);
        x.lay(0);
        Due.is("50 more", x.tick(50), FULL);
        Due.is("ticks", x.count(4), 9950);
        Due.is("the belt stands", x.at(0), 0);
        Due.is("49 more", x.tick(49), 0);
        Due.is("ticks", x.count(4), 9999);
    }

    private static void tickBadAheadOfFull() {
        Due.by("promise 18: BAD ahead of FULL");
        PlateRound x = aged(9999);
        for (int n : new int[] {0, 61, -1, MIN, MAX}) {
            Due.is("tick(" + n + ")", x.tick(n), BAD);
        }
    }

    private static void tellsEatenOfAllTicks() {
        Due.by("promise 18: how many PLATES were EATEN in these");
        PlateRound x = ruled(EAT_ALL, 1, 3);
        x.order(0, 0);
        x.order(0, 0);
        x.order(1, 0);
        Due.is("none in the first", x.tick(1), 0);
        x.lay(5);
        Due.is("one in the second, the belt's goes on", x.tick(1), 1);
        Due.is("three in five", x.tick(5), 3);
        Due.is("none of the ones ahead", x.tick(60), 0);
    }

    private static void fullBeltTurns() {
        Due.by("4 (1): all PLATES on the BELT go one PLACE on, and are 1 older: a full BELT");
        PlateRound x = new PlateRound(6);
        for (int i = 0; i < 12; i++) {
            Due.is("lay", x.lay(0), i);
            x.tick(1);
        }
        for (int place = 0; place < 12; place++) {
            Due.is("at(" + place + ")", x.at(place), place == 0 ? 0 : 12 - place);
            Due.is("age of " + place, x.plate(place, 2), 12 - place);
        }
        x.tick(1);
        for (int place = 0; place < 12; place++) {
            Due.is("a tick later at(" + place + ")", x.at(place), place < 2 ? 1 - place : 13 - place);
        }
    }

    private static void emptyBeltTurns() {
        Due.by("4 (1): all PLATES on the BELT: none");
        PlateRound x = new PlateRound(0);
        Due.is("sixty ticks", x.tick(60), 0);
        for (int place = 0; place < 6; place++) {
            Due.is("at(" + place + ")", x.at(place), NONE);
        }
    }

    private static void thrownAheadOfGuests() {
        Due.by("4 (2): a stale one is THROWN, and its PLACE is free");
        PlateRound x = new PlateRound(0);
        x.dish(0, 0, 1);
        x.lay(0);
        x.tick(6);
        Due.is("thrown", x.plate(0, 3), 4);
        Due.is("at the hatch", x.at(0), NONE);
        Due.is("laid", x.lay(1), 1);
        Due.is("it grows no older", x.plate(0, 2), 6);
        x.tick(3);
        Due.is("it grows no older", x.plate(0, 2), 6);
    }

    private static void laneOutside() {
        Due.by("4 (3): THE LANE has cells 0 .. n - 1; promise 20: BAD");
        for (int number = 0; number < 7; number++) {
            PlateRound x = new PlateRound(number);
            for (int cell : new int[] {-1, 6 + number, MIN, MAX}) {
                Due.is("lane(" + cell + ") of " + (6 + number), x.lane(cell), BAD);
            }
            Due.is("the first cell", x.lane(0), NONE);
            Due.is("the last cell", x.lane(5 + number), NONE);
        }
    }

    private static void laneEmpty() {
        Due.by("promise 20: NONE: none is there");
        PlateRound x = ruled(TRAYS_ALONE, 5);
        x.lay(0);
        x.order(0, 0);
        Due.is("it waits, a plate is at the hatch", x.lane(0), NONE);
        x.tick(2);
        lane(x, NONE, 0, NONE, NONE, NONE, NONE, NONE, NONE, NONE, NONE, NONE, NONE);
    }

    private static void laneTellsTheSeat() {
        Due.by("promise 20: For which SEAT the TRAY in a cell is");
        PlateRound x = ruled(TRAYS_ALONE, 9, 8, 7);
        x.order(2, 0);
        x.order(0, 1);
        x.order(1, 2);
        x.tick(3);
        lane(x, 1, 0, 2);
    }

    private static void lastCell() {
        Due.by("4 (3): a TRAY for the last PLACE");
        for (int number = 0; number < 7; number++) {
            PlateRound x = new PlateRound(number);
            int last = 5 + number;
            x.seat(last);
            x.guest(0, 0, 0);
            x.order(0, 0);
            x.order(0, 0);
            Due.is("ahead of it", x.tick(last), 0);
            Due.is("the cell ahead of the last", x.lane(last - 1), 0);
            Due.is("over it", x.tick(1), 1);
            Due.is("the next one", x.tick(1), 1);
            Due.is("none is left", x.count(5), 0);
        }
    }

    private static void firstCellForPlaceOne() {
        Due.by("4 (3): a TRAY for PLACE 1");
        PlateRound x = ruled(TRAYS_ALONE, 1);
        x.order(0, 0);
        Due.is("it comes to cell 0", x.tick(1), 0);
        lane(x, 0, NONE);
        Due.is("it comes over its seat", x.tick(1), 1);
        lane(x, NONE, NONE);
    }

    private static PlateRound leftByThree() {
        PlateRound x = ruled("take 0; go eaten;", 2);
        x.order(0, 0);
        x.order(0, 1);
        x.order(0, 2);
        x.tick(3);
        Due.is("the guest ate and left", x.count(3), 0);
        lane(x, 0, 0, NONE);
        return x;
    }

    private static void comesOverAnEmptySeat() {
        Due.by("4 (3): one that is over its SEAT (not one that comes there in this TICK)");
        PlateRound x = leftByThree();
        x.tick(1);
        lane(x, NONE, 0, 0);
        Due.is("it is on a tray", x.plate(1, 3), 1);
        Due.is("none is thrown", x.empties(1, 5), 0);
    }

    private static void overItsSeatNobody() {
        Due.by("4 (3): if nobody sits there its PLATE is THROWN, and it is away");
        PlateRound x = leftByThree();
        x.tick(2);
        Due.is("thrown", x.plate(1, 3), 4);
        lane(x, NONE, NONE, 0);
        Due.is("the one behind came over it", x.plate(2, 4), 2);
        x.tick(1);
        Due.is("thrown", x.plate(2, 3), 4);
        Due.is("no tray", x.count(5), 0);
        Due.is("not to the belt", x.at(2), NONE);
    }

    private static void elseItStands() {
        Due.by("4 (3): else it stands");
        PlateRound x = leftByThree();
        x.tick(1);
        x.guest(0, 2, 0);
        Due.is("the new guest has it", x.tick(1), 1);
        Due.is("it ate, left and paid", x.plate(1, 3), 3);
        lane(x, NONE, 0, NONE);
    }

    private static void goesOnIfFree() {
        Due.by("4 (3): any other one goes one cell on, if that is free");
        PlateRound x = ruled("take 0; go eaten;", 2, 5);
        x.order(0, 0);
        x.order(0, 1);
        x.order(1, 2);
        x.order(1, 3);
        x.tick(3);
        lane(x, 1, 0, NONE);
        x.tick(1);
        lane(x, 1, 1, 0);
        x.guest(0, 0, 0);
        x.tick(1);
        Due.is("one stood over its seat, none behind it went on", x.empties(2, 2), 1);
        lane(x, 1, 1, NONE);
        x.tick(1);
        lane(x, NONE, 1, 1);
    }

    private static void fromTheGreatestCellDown() {
        Due.by("4 (3): from the greatest cell down");
        PlateRound x = ruled(TRAYS_ALONE, 11);
        for (int i = 0; i < 4; i++) {
            x.order(0, i);
        }
        x.tick(4);
        for (int step = 0; step < 4; step++) {
            for (int plate = 0; plate < 4; plate++) {
                Due.is("a row goes on together, plate " + plate, x.plate(plate, 4), 3 - plate + step);
            }
            x.tick(1);
        }
    }

    private static void cellThatBecameFree() {
        Due.by("4 (3): if that is free: by one that was THROWN in this TICK");
        PlateRound x = leftByThree();
        x.tick(1);
        lane(x, NONE, 0, 0);
        x.tick(1);
        Due.is("thrown", x.plate(1, 3), 4);
        Due.is("the one behind is there", x.plate(2, 4), 2);
    }

    private static void overAnotherSeat() {
        Due.by("4 (3): one that is over its SEAT (over another one it goes on)");
        PlateRound x = ruled(TRAYS_ALONE, 2, 4);
        x.seat(3);
        x.order(1, 0);
        x.tick(3);
        lane(x, NONE, NONE, 1, NONE);
        Due.is("not eaten at seat 0", x.seatTold(0, 2), 0);
        x.tick(1);
        lane(x, NONE, NONE, NONE, 1, NONE);
        Due.is("not thrown at seat 2", x.plate(0, 3), 1);
        Due.is("eaten at seat 1", x.tick(1), 1);
    }

    private static void cellZeroTaken() {
        Due.by("4 (3): Then, if cell 0 is free");
        PlateRound x = ruled("take 0; go eaten;", 1);
        x.order(0, 0);
        x.order(0, 1);
        x.order(0, 2);
        x.order(0, 3);
        x.tick(2);
        Due.is("the guest left", x.count(3), 0);
        Due.is("two wait", x.count(6), 2);
        x.tick(1);
        lane(x, 0, 0, NONE);
        x.guest(0, 0, 0);
        x.tick(1);
        Due.is("one stood, one behind it, and none came", x.count(6), 1);
        lane(x, 0, NONE, NONE);
    }

    private static void oneTrayATick() {
        Due.by("4 (3): the TRAY that waits longest comes there: one a TICK");
        PlateRound x = ruled(TRAYS_ALONE, 11);
        x.order(0, 0);
        x.order(0, 0);
        x.order(0, 0);
        for (int tick = 1; tick <= 3; tick++) {
            x.tick(1);
            Due.is("in the lane", x.count(5), tick);
            Due.is("waiting", x.count(6), 3 - tick);
        }
        x.tick(1);
        Due.is("in the lane", x.count(5), 3);
        Due.is("cell 0", x.lane(0), NONE);
    }

    private static void waitsLongestFirst() {
        Due.by("4 (3): the TRAY that waits longest comes there");
        PlateRound x = ruled(TRAYS_ALONE, 2, 11);
        int[] seats = {1, 0, 1, 1, 0};
        for (int seat : seats) {
            x.order(seat, 0);
        }
        for (int plate = 0; plate < 5; plate++) {
            x.tick(1);
            Due.is("plate " + plate, x.plate(plate, 4), 0);
            Due.is("its seat", x.lane(0), seats[plate]);
        }
    }

    private static void sixteenWait() {
        Due.by("4 (3): (16 at most wait); promise 19: FULL: 16 wait");
        PlateRound x = ruled(TRAYS_ALONE, 11);
        for (int i = 0; i < 16; i++) {
            Due.is("order", x.order(0, 0), i);
        }
        Due.is("a seventeenth", x.order(0, 0), FULL);
        Due.is("waiting", x.count(6), 16);
        Due.is("plates", x.count(1), 16);
        Due.is("laid", x.lay(0), 16);
    }

    private static void sixteenWaitNotTheLane() {
        Due.by("4 (3): (16 at most wait): those in THE LANE do not");
        PlateRound x = ruled(TRAYS_ALONE, 11);
        for (int i = 0; i < 16; i++) {
            x.order(0, 0);
        }
        for (int tick = 1; tick <= 11; tick++) {
            x.tick(1);
            Due.is("one came into the lane", x.order(0, 0), 15 + tick);
            Due.is("a seventeenth", x.order(0, 0), FULL);
        }
        Due.is("waiting", x.count(6), 16);
        Due.is("in the lane", x.count(5), 11);
        Due.is("all", x.tick(27), 27);
    }

    private static void orderBad() {
        Due.by("promise 19: BAD");
        PlateRound x = ruled(TRAYS_ALONE, 2);
        for (int seat : new int[] {-1, 1, 8, MIN, MAX}) {
            Due.is("order(" + seat + ", 0)", x.order(seat, 0), BAD);
        }
        for (int dish : new int[] {-1, 6, MIN, MAX}) {
            Due.is("order(0, " + dish + ")", x.order(0, dish), BAD);
        }
        Due.is("order(0, 5)", x.order(0, 5), 0);
    }

    private static void orderState() {
        Due.by("promise 19: STATE: nobody sits there");
        PlateRound x = new PlateRound(0);
        x.seat(2);
        Due.is("nobody came", x.order(0, 0), STATE);
        x.guest(0, 0, 0);
        Due.is("somebody sits there", x.order(0, 0), 0);
        Due.rule(x, "take 0; go 1;");
        x.tick(1);
        Due.is("it left", x.order(0, 0), STATE);
        Due.is("plates", x.count(1), 1);
    }

    private static void orderBadAheadOfState() {
        Due.by("promise 19: BAD ahead of STATE and FULL");
        PlateRound x = ruled(TRAYS_ALONE, 11);
        x.seat(2);
        Due.is("where nobody sits", x.order(1, 6), BAD);
        for (int i = 0; i < 16; i++) {
            x.order(0, 0);
        }
        Due.is("where 16 wait", x.order(0, 6), BAD);
        Due.is("where 16 wait", x.order(2, 0), BAD);
    }

    private static void orderStateAheadOfFull() {
        Due.by("promise 19: STATE ahead of FULL");
        PlateRound x = ruled(TRAYS_ALONE, 11);
        x.seat(2);
        for (int i = 0; i < 16; i++) {
            x.order(0, 0);
        }
        Due.is("nobody sits there, and 16 wait", x.order(1, 0), STATE);
    }

    private static void trayOlderAsItBegins() {
        Due.by("4 (3): PLATES on TRAYS that are in the LANE are 1 older as it begins");
        PlateRound x = ruled(TRAYS_ALONE, 3);
        x.order(0, 0);
        x.tick(1);
        Due.is("it came there in this tick", x.plate(0, 2), 0);
        x.tick(1);
        Due.is("a tick in the lane", x.plate(0, 2), 1);
        x.tick(2);
        Due.is("eaten in its third", x.plate(0, 2), 3);
        x.tick(4);
        Due.is("it grows no older", x.plate(0, 2), 3);
        PlateRound y = leftByThree();
        y.tick(2);
        Due.is("one that is thrown", y.plate(1, 2), 3);
    }

    private static void waitingTrayNoOlder() {
        Due.by("4 (3): that are in the LANE (those that wait grow no older)");
        PlateRound x = ruled(TRAYS_ALONE, 11);
        for (int i = 0; i < 9; i++) {
            x.order(0, 0);
        }
        x.tick(8);
        for (int i = 0; i < 9; i++) {
            Due.is("age of plate " + i, x.plate(i, 2), Math.max(0, 7 - i));
        }
    }

    private static void noLimitOnTrays() {
        Due.by("4 (2): One at the HATCH (a TRAY over it is no such one)");
        PlateRound x = ruled("take 0; go 0;", 11);
        x.dish(0, 0, 1);
        x.order(0, 0);
        Due.is("eaten, 11 old", x.tick(12), 1);
        Due.is("its age", x.plate(0, 2), 11);
        Due.is("none is thrown", x.empties(0, 5), 0);
    }

    private static void trayAheadOfBelt() {
        Due.by("4 (4): is a TRAY over the SEAT, its PLATE is EATEN; else");
        PlateRound x = ruled(EAT_ALL, 2);
        x.order(0, 1);
        x.tick(1);
        x.lay(0);
        Due.is("one of both", x.tick(2), 1);
        Due.is("the tray's", x.plate(0, 3), 2);
        Due.is("the belt's is there", x.at(2), 1);
        Due.is("it rides on", x.tick(1), 0);
        Due.is("it rides on", x.at(3), 1);
    }

    private static void trayThatIsNotForIt() {
        Due.by("4 (4): a TRAY over the SEAT that is for it");
        PlateRound x = ruled(EAT_ALL, 2, 5);
        x.order(1, 1);
        x.tick(1);
        x.lay(0);
        Due.is("it takes from the belt", x.tick(2), 1);
        Due.is("the belt's is eaten", x.plate(1, 3), 2);
        Due.is("the tray is over it", x.lane(2), 1);
        Due.is("it goes on", x.plate(0, 4), 2);
    }

    private static void trayWithoutTake() {
        Due.by("4 (4): a TRAY's PLATE is EATEN whatever take is");
        PlateRound x = ruled(TRAYS_ALONE, 1);
        x.order(0, 1);
        Due.is("eaten", x.tick(2), 1);
        x.lay(0);
        Due.is("the belt's is not", x.tick(1), 0);
    }

    private static void takeIsZero() {
        Due.by("4 (4): take isn't 0");
        PlateRound x = ruled("take age-2; go 0;", 1, 2, 3);
        x.lay(0);
        Due.is("-1 at age 1", x.tick(1), 1);
        x.gone(1);
        PlateRound y = ruled("take age-2; go 0;", 2, 3);
        y.lay(0);
        Due.is("0 at age 2", y.tick(2), 0);
        Due.is("it is there", y.at(2), 0);
        Due.is("1 at age 3", y.tick(1), 1);
        Due.is("at seat 1", y.seatTold(1, 2), 1);
    }

    private static void onePlateATick() {
        Due.by("4 (4): else: one PLATE a TICK");
        PlateRound x = ruled(EAT_ALL, 1);
        x.order(0, 1);
        x.tick(1);
        x.lay(0);
        x.tick(1);
        Due.is("eaten", x.seatTold(0, 2), 1);
        Due.is("on the bill", x.seatTold(0, 5), 1);
    }

    private static void waitedZeroByATray() {
        Due.by("4 (4): Who EATS has WAITED 0");
        PlateRound x = ruled(EAT_ALL, 3);
        x.order(0, 0);
        x.tick(3);
        Due.is("waited", x.seatTold(0, 3), 3);
        x.tick(1);
        Due.is("behind a tray", x.seatTold(0, 3), 0);
        x.tick(5);
        Due.is("waited", x.seatTold(0, 3), 5);
        x.lay(0);
        x.tick(3);
        Due.is("behind one of the belt", x.seatTold(0, 3), 0);
    }

    private static void waitedOneMore() {
        Due.by("4 (4): else 1 more");
        PlateRound x = ruled("take 0; go 0;", 1);
        x.seat(2);
        x.lay(0);
        for (int waited = 1; waited <= 7; waited++) {
            x.tick(1);
            Due.is("waited", x.seatTold(0, 3), waited);
            Due.is("nobody waits", x.seatTold(1, 3), NONE);
        }
        x.tick(60);
        Due.is("waited", x.seatTold(0, 3), 67);
    }

    private static void eatsBeyondRoom() {
        Due.by("2: ROOM: it stops nobody but by the text");
        PlateRound x = ruled(EAT_ALL, 1);
        for (int i = 0; i < 9; i++) {
            x.lay(0);
            Due.is("eaten", x.tick(1), 1);
        }
        Due.is("eaten", x.seatTold(0, 2), 9);
        Due.is("room", x.seatTold(0, 4), 6);
    }

    private static void goBehindEating() {
        Due.by("4 (5): GUESTS for whom go isn't 0 leave: behind EATING, in the same TICK");
        PlateRound x = ruled("take 1; go eaten and waited=0;", 1);
        x.tick(3);
        Due.is("it sits there", x.count(3), 1);
        x.lay(0);
        Due.is("it eats", x.tick(1), 1);
        Due.is("and leaves", x.count(3), 0);
        Due.is("and paid", x.count(7), 100);
    }

    private static void leaveBySeats() {
        Due.by("4 (5): by SEATS (their numbers, not their PLACES)");
        PlateRound x = eatenInOneTick(0, 1, 1, 2);
        Due.is("0's bill came to 1, and both to 2", x.seatTold(2, 5), 2);
        Due.is("nothing is paid", x.count(7), 0);
        PlateRound y = eatenInOneTick(0, 2, 1, 0);
        Due.is("0's bill came to 2", y.seatTold(2, 5), 1);
        Due.is("1 paid, as nobody sat at 0", y.count(7), 100);
    }

    // Seats 0 and 1 eat in one tick and leave, seat 2 stays; b pays for a, and d for c.
    private static PlateRound eatenInOneTick(int a, int b, int c, int d) {
        PlateRound x = ruled("take 0; go eaten;", 3, 2, 5);
        x.pays(a, b);
        x.pays(c, d);
        x.order(0, 0);
        x.order(1, 0);
        Due.is("both eat", x.tick(4), 2);
        Due.is("both left", x.count(3), 1);
        return x;
    }

    private static void newGuestByTheOldOnesTray() {
        Due.by("4 (4): GUESTS: is a TRAY over the SEAT: who ordered it does not matter");
        PlateRound x = ruled("take 0; go waited=1;", 3);
        x.order(0, 4);
        x.tick(1);
        Due.is("it left", x.count(3), 0);
        x.tick(1);
        Due.is("its tray goes on", x.plate(0, 4), 1);
        x.force(0);
        x.guest(0, 5, 0);
        Due.is("eaten by the next one", x.tick(2), 1);
        Due.is("on its bill", x.seatTold(0, 6), 100);
    }
}
