/**
 * Part 2 of the terms, bills and putting back, promises 8 to 13 and 31: a test for each sentence
 * that names an edge. Due.by() has the sentence's words.
 */
public final class EdgesOfSeatsTest {
    private static final int MIN = Integer.MIN_VALUE, MAX = Integer.MAX_VALUE;
    private static final int BAD = PlateRound.BAD, NONE = PlateRound.NONE, STATE = PlateRound.STATE, FULL = PlateRound.FULL;
    private static final String EAT_ALL = "take 1; go 0;";

    public static void main(String[] args) {
        eightSeats();
        seatsNumberedFromZero();
        unlikePlaces();
        noneAtTheHatch();
        seatOutside();
        seatBadAheadOfFull();
        leastLikes();
        greatestLikes();
        likesOutside();
        lowestDigit();
        kindNumbers();
        guestAtNoSeat();
        guestWhereSomebodySits();
        guestBadAheadOfState();
        eatenAtFirst();
        waitedAtFirst();
        likingOfAChild();
        likingOfTheHungry();
        likingOfThePicky();
        likingBelowZero();
        likingOfTheLate();
        likingOfABaby();
        rooms();
        seatTellsNobody();
        seatToldOutside();
        billOfNobody();
        likingOfNoSuch();
        beginsWithNone();
        pricesWhenPaid();
        notToItself();
        toldAnew();
        toldOfNobody();
        paysOutside();
        nobodySits();
        paysBadAheadOfNobody();
        endsAsThePayerLeaves();
        endsAsThePaidLeaves();
        ifSomebodySitsThere();
        putBackOfNoSeat();
        putBackOfNobody();
        putBackOfNothingTaken();
        putBackOnce();
        notBehindAnotherTick();
        notOfATray();
        ifItSitsThereStill();
        eatenOneLess();
        takenOutside();
        takenOfNobody();
        takenOfAnotherKind();
        takenByOthersBetween();
        Due.end();
    }

    private static PlateRound seated(int... kinds) {
        PlateRound x = new PlateRound(6);
        for (int seat = 0; seat < kinds.length; seat++) {
            x.seat(seat + 1);
            x.guest(seat, kinds[seat], 0);
        }
        return x;
    }

    private static void eightSeats() {
        Due.by("2: SEATS (8 at most); promise 8: FULL");
        PlateRound x = new PlateRound(6);
        for (int seat = 0; seat < 8; seat++) {
            Due.is("seat " + seat, x.seat(seat + 1), seat);
        }
        Due.is("a ninth", x.seat(9), FULL);
        Due.is("and again", x.seat(11), FULL);
        Due.is("seats", x.count(2), 8);
        Due.is("the eighth", x.seatTold(7, 0), 8);
        Due.is("no ninth", x.seatTold(8, 0), BAD);
    }

    private static void seatsNumberedFromZero() {
        Due.by("2: SEATS numbered from 0");
        PlateRound x = new PlateRound(0);
        Due.is("seat(5)", x.seat(5), 0);
        Due.is("a refused one", x.seat(5), BAD);
        Due.is("seat(1)", x.seat(1), 1);
        Due.is("the place of 0", x.seatTold(0, 0), 5);
        Due.is("the place of 1", x.seatTold(1, 0), 1);
    }

    private static void unlikePlaces() {
        Due.by("2: at unlike PLACES; promise 8: BAD: one that has a SEAT");
        PlateRound x = new PlateRound(0);
        Due.is("seat(3)", x.seat(3), 0);
        Due.is("seat(3) again", x.seat(3), BAD);
        Due.is("seat(2)", x.seat(2), 1);
        Due.is("seat(3) again", x.seat(3), BAD);
        x.guest(0, 0, 0);
        Due.is("seat(3) with a guest", x.seat(3), BAD);
        Due.is("seats", x.count(2), 2);
    }

    private static void noneAtTheHatch() {
        Due.by("2: none at the HATCH; promise 8: BAD: the HATCH");
        PlateRound x = new PlateRound(0);
        Due.is("seat(0)", x.seat(0), BAD);
        Due.is("seat(1)", x.seat(1), 0);
        Due.is("seats", x.count(2), 1);
    }

    private static void seatOutside() {
        Due.by("promise 8: BAD: PLACE");
        for (int number = 0; number < 7; number++) {
            PlateRound x = new PlateRound(number);
            for (int place : new int[] {-1, 6 + number, MIN, MAX}) {
                Due.is("seat(" + place + ") of " + (6 + number), x.seat(place), BAD);
            }
            Due.is("the last place", x.seat(5 + number), 0);
        }
    }

    private static void seatBadAheadOfFull() {
        Due.by("promise 8: BAD ahead of FULL");
        PlateRound x = new PlateRound(6);
        for (int seat = 0; seat < 8; seat++) {
            x.seat(seat + 1);
        }
        for (int place : new int[] {0, 8, 12, -1}) {
            Due.is("seat(" + place + ")", x.seat(place), BAD);
        }
    }

    private static void leastLikes() {
        Due.by("2: LIKES (0 .. 9 of each DISH): 0 of each");
        PlateRound x = new PlateRound(0);
        x.seat(1);
        Due.is("guest(0, 0, 0)", x.guest(0, 0, 0), 1);
        for (int dish = 0; dish < 6; dish++) {
            x.lay(dish);
            Due.is("liking of dish " + dish, x.liking(0, dish), 0);
            x.gone(0);
        }
    }

    private static void greatestLikes() {
        Due.by("2: LIKES (0 .. 9 of each DISH): 9 of each");
        PlateRound x = new PlateRound(0);
        x.seat(1);
        Due.is("guest(0, 0, 999999)", x.guest(0, 0, 999999), 1);
        for (int dish = 0; dish < 6; dish++) {
            x.lay(dish);
            Due.is("liking of dish " + dish, x.liking(0, dish), 9);
            x.gone(0);
        }
    }

    private static void likesOutside() {
        Due.by("promise 9: BAD: likes (below 0, more than 6 digits)");
        PlateRound x = new PlateRound(0);
        x.seat(1);
        for (int likes : new int[] {-1, 1000000, MIN, MAX}) {
            Due.is("guest(0, 0, " + likes + ")", x.guest(0, 0, likes), BAD);
        }
        Due.is("nobody came", x.count(3), 0);
    }

    private static void lowestDigit() {
        Due.by("promise 9: digits to the base 10, DISH 0's the lowest");
        PlateRound x = new PlateRound(0);
        x.seat(1);
        x.guest(0, 0, 654321);
        for (int dish = 0; dish < 6; dish++) {
            x.lay(dish);
            Due.is("liking of dish " + dish, x.liking(0, dish), dish + 1);
            x.gone(0);
        }
    }

    private static void kindNumbers() {
        Due.by("2: a KIND: 0 .. 5; promise 9: BAD: KIND");
        PlateRound x = new PlateRound(6);
        x.seat(1);
        for (int kind : new int[] {-1, 6, MIN, MAX}) {
            Due.is("guest(0, " + kind + ", 0)", x.guest(0, kind, 0), BAD);
        }
        Due.is("nobody came", x.count(3), 0);
        for (int kind = 0; kind <= 5; kind++) {
            x.seat(kind + 2);
            Due.is("guest of kind " + kind, x.guest(kind, kind, 0), 1);
            Due.is("its kind", x.seatTold(kind, 1), kind);
        }
    }

    private static void guestAtNoSeat() {
        Due.by("promise 9: BAD: SEAT");
        PlateRound x = new PlateRound(0);
        Due.is("where there is none", x.guest(0, 0, 0), BAD);
        x.seat(4);
        for (int seat : new int[] {-1, 1, 4, 8, MIN, MAX}) {
            Due.is("guest(" + seat + ", 0, 0)", x.guest(seat, 0, 0), BAD);
        }
        Due.is("guest(0, 0, 0)", x.guest(0, 0, 0), 1);
    }

    private static void guestWhereSomebodySits() {
        Due.by("promise 9: STATE: somebody sits there");
        PlateRound x = seated(2);
        Due.is("a second one", x.guest(0, 1, 999), STATE);
        Due.is("the first one's kind", x.seatTold(0, 1), 2);
        Due.is("guests", x.count(3), 1);
        Due.rule(x, "take 0; go 1;");
        x.tick(1);
        Due.is("where somebody sat", x.guest(0, 1, 999), 1);
    }

    private static void guestBadAheadOfState() {
        Due.by("promise 9: BAD ahead of STATE");
        PlateRound x = seated(2);
        Due.is("a bad kind", x.guest(0, 6, 0), BAD);
        Due.is("bad likes", x.guest(0, 0, -1), BAD);
        Due.is("bad likes", x.guest(0, 0, 1000000), BAD);
    }

    private static void eatenAtFirst() {
        Due.by("2: EATEN (PLATES, 0 at first)");
        PlateRound x = seated(0);
        Due.is("eaten", x.seatTold(0, 2), 0);
        Due.rule(x, "take 1; go eaten;");
        x.lay(0);
        x.tick(1);
        Due.is("left", x.seatTold(0, 2), NONE);
        x.guest(0, 0, 0);
        Due.is("of the next one", x.seatTold(0, 2), 0);
    }

    private static void waitedAtFirst() {
        Due.by("2: WAITED (TICKS, 0 at first)");
        PlateRound x = seated(0);
        x.tick(5);
        Due.is("waited", x.seatTold(0, 3), 5);
        Due.rule(x, "take 1; go waited = 6;");
        x.tick(1);
        Due.is("left", x.seatTold(0, 3), NONE);
        x.guest(0, 0, 0);
        Due.is("of the next one", x.seatTold(0, 3), 0);
        x.tick(1);
        Due.is("a tick later", x.seatTold(0, 3), 1);
    }

    private static void likingOfAChild() {
        Due.by("2: CHILD: as a GUEST, 2 more of DISH 0");
        PlateRound x = new PlateRound(0);
        x.seat(1);
        x.guest(0, 1, 999999);
        for (int dish = 0; dish < 6; dish++) {
            x.lay(dish);
            Due.is("liking of dish " + dish, x.liking(0, dish), dish == 0 ? 11 : 9);
            x.gone(0);
        }
    }

    private static void likingOfTheHungry() {
        Due.by("2: HUNGRY: as a GUEST, 1 more");
        PlateRound x = new PlateRound(0);
        x.seat(1);
        x.guest(0, 2, 999990);
        for (int dish = 0; dish < 6; dish++) {
            x.lay(dish);
            Due.is("liking of dish " + dish, x.liking(0, dish), dish == 0 ? 1 : 10);
            x.gone(0);
        }
    }

    private static void likingOfThePicky() {
        Due.by("2: PICKY: less the AGE by 4 (cut)");
        PlateRound x = seated(3);
        Due.rule(x, "take 0; go 0;");
        x.dish(1, 1, 60);
        x.lay(1);
        int[] ages = {0, 3, 4, 7, 8, 11, 12};
        int[] due = {0, 0, -1, -1, -2, -2, -3};
        for (int i = 0, age = 0; i < ages.length; age = ages[i], i++) {
            if (ages[i] > age) {
                x.tick(ages[i] - age);
            }
            Due.is("liking of one " + ages[i] + " old", x.liking(0, 0), due[i]);
        }
    }

    private static void likingBelowZero() {
        Due.by("2: PICKY: a LIKING may be below 0");
        PlateRound x = new PlateRound(0);
        x.seat(1);
        x.guest(0, 3, 10);
        Due.rule(x, "take like = -14; go 0;");
        x.dish(1, 1, 60);
        x.lay(1);
        x.tick(60);
        Due.is("60 old", x.liking(0, 0), -14);
        Due.is("take", x.says(0, 0, 0), 1);
    }

    private static void likingOfTheLate() {
        Due.by("2: LATE: as HUNGRY, and WAITED by 5 (cut) more");
        PlateRound x = seated(4);
        Due.rule(x, "take 0; go 0;");
        x.lay(1);
        x.gone(0);
        int[] waits = {0, 4, 5, 9, 10, 14, 15};
        int[] due = {1, 1, 2, 2, 3, 3, 4};
        for (int i = 0, waited = 0; i < waits.length; waited = waits[i], i++) {
            if (waits[i] > waited) {
                x.tick(waits[i] - waited);
            }
            Due.is("liking of one that waited " + waits[i], x.liking(0, 0), due[i]);
        }
    }

    private static void likingOfABaby() {
        Due.by("2: BABY: as a CHILD; behind 2 EATEN as a GUEST");
        PlateRound x = new PlateRound(0);
        x.seat(1);
        x.guest(0, 5, 7);
        Due.rule(x, EAT_ALL);
        int[] due = {9, 9, 7, 7};
        for (int eaten = 0; eaten < 4; eaten++) {
            x.lay(0);
            Due.is("liking behind " + eaten, x.liking(0, eaten), due[eaten]);
            x.tick(1);
        }
        Due.is("eaten", x.seatTold(0, 2), 4);
    }

    private static void rooms() {
        Due.by("2: ROOM: GUEST 6; CHILD 3 less; HUNGRY 4 more; PICKY as a GUEST; LATE 1 less; BABY 1 less");
        PlateRound x = seated(0, 1, 2, 3, 4, 5);
        int[] due = {6, 3, 10, 6, 9, 2};
        for (int kind = 0; kind < 6; kind++) {
            Due.is("room of kind " + kind, x.seatTold(kind, 4), due[kind]);
        }
    }

    private static void seatTellsNobody() {
        Due.by("promise 10: (1 .. 4 NONE: nobody)");
        PlateRound x = new PlateRound(0);
        x.seat(4);
        Due.is("its place", x.seatTold(0, 0), 4);
        for (int what = 1; what <= 4; what++) {
            Due.is("seatTold(0, " + what + ")", x.seatTold(0, what), NONE);
        }
        x.guest(0, 0, 0);
        Due.rule(x, "take 0; go 1;");
        x.tick(1);
        for (int what = 1; what <= 4; what++) {
            Due.is("left: seatTold(0, " + what + ")", x.seatTold(0, what), NONE);
        }
    }

    private static void seatToldOutside() {
        Due.by("promise 10: BAD");
        PlateRound x = seated(0, 0);
        for (int seat : new int[] {-1, 2, 8, MIN, MAX}) {
            for (int what = 0; what <= 7; what++) {
                Due.is("seatTold(" + seat + ", " + what + ")", x.seatTold(seat, what), BAD);
            }
        }
        for (int what : new int[] {-1, 8, MIN, MAX}) {
            Due.is("seatTold(1, " + what + ")", x.seatTold(1, what), BAD);
        }
        PlateRound y = new PlateRound(0);
        y.seat(1);
        Due.is("of nobody", y.seatTold(0, 8), BAD);
    }

    private static void billOfNobody() {
        Due.by("promise 10: 5, 6, 7 of a SEAT without a GUEST");
        PlateRound x = new PlateRound(0);
        x.seat(4);
        Due.is("plates on its bill", x.seatTold(0, 5), 0);
        Due.is("what they come to", x.seatTold(0, 6), 0);
        Due.is("which seat pays", x.seatTold(0, 7), NONE);
    }

    private static void likingOfNoSuch() {
        Due.by("promise 11: NO: no such, nobody sits there");
        PlateRound x = seated(0, 0);
        x.seat(9);
        x.lay(0);
        Due.is("liking(0, 0)", x.liking(0, 0), 0);
        for (int number : new int[] {-1, 3, 300, MIN, MAX}) {
            Due.is("liking(" + number + ", 0)", x.liking(number, 0), PlateRound.NO);
            Due.is("liking(0, " + number + ")", x.liking(0, number), PlateRound.NO);
        }
        Due.is("a plate not made yet", x.liking(0, 1), PlateRound.NO);
        Due.is("nobody", x.liking(2, 0), PlateRound.NO);
    }

    private static void beginsWithNone() {
        Due.by("4: Who comes to a SEAT begins with none");
        PlateRound x = seated(0, 0);
        Due.rule(x, "take 1; go eaten;");
        x.pays(0, 1);
        x.lay(0);
        x.tick(1);
        Due.is("the bill went on", x.seatTold(1, 5), 1);
        x.guest(0, 0, 0);
        Due.is("plates", x.seatTold(0, 5), 0);
        Due.is("what they come to", x.seatTold(0, 6), 0);
        Due.is("nobody pays for the next one", x.seatTold(0, 7), NONE);
        x.order(1, 0);
        x.tick(3);
        Due.is("all is paid", x.count(7), 200);
        x.guest(1, 0, 0);
        Due.is("plates", x.seatTold(1, 5), 0);
    }

    private static void pricesWhenPaid() {
        Due.by("4: by PRICES as they are when it is PAID");
        PlateRound x = seated(0, 0);
        Due.rule(x, "take 1; go eaten;");
        x.pays(0, 1);
        x.lay(0);
        x.tick(1);
        x.price(0, 1);
        Due.is("what it comes to now", x.seatTold(1, 6), 1);
        x.order(1, 5);
        x.tick(2);
        x.price(0, 30);
        x.tick(1);
        Due.is("takings", x.count(7), 60);
        x.price(0, 999);
        Due.is("what was paid stands", x.count(7), 60);
    }

    private static void notToItself() {
        Due.by("promise 12: BAD: also a = b");
        PlateRound x = seated(0, 0);
        Due.is("pays(0, 0)", x.pays(0, 0), BAD);
        Due.is("pays(1, 1)", x.pays(1, 1), BAD);
        x.seat(5);
        Due.is("where nobody sits", x.pays(2, 2), BAD);
        Due.is("pays(-1, -1)", x.pays(-1, -1), BAD);
        Due.is("nobody pays", x.seatTold(0, 7), NONE);
    }

    private static void toldAnew() {
        Due.by("4: it may be told anew; promise 12: which did (NONE)");
        PlateRound x = seated(0, 0, 0);
        Due.is("nobody did", x.pays(0, 1), NONE);
        Due.is("seat 1 did", x.pays(0, 2), 1);
        Due.is("seat 2 did", x.pays(0, 2), 2);
        Due.is("it does", x.seatTold(0, 7), 2);
    }

    private static void toldOfNobody() {
        Due.by("promise 12: (b = -1: nobody)");
        PlateRound x = seated(0, 0);
        Due.is("nobody did", x.pays(0, -1), NONE);
        x.pays(0, 1);
        Due.is("seat 1 did", x.pays(0, -1), 1);
        Due.is("nobody does", x.seatTold(0, 7), NONE);
        Due.rule(x, "take 1; go eaten;");
        x.lay(0);
        x.tick(1);
        Due.is("it paid by itself", x.count(7), 100);
    }

    private static void paysOutside() {
        Due.by("promise 12: BAD");
        PlateRound x = seated(0, 0);
        for (int number : new int[] {-2, 2, 8, MIN, MAX}) {
            Due.is("pays(" + number + ", 0)", x.pays(number, 0), BAD);
            Due.is("pays(0, " + number + ")", x.pays(0, number), BAD);
        }
        Due.is("pays(-1, 0)", x.pays(-1, 0), BAD);
    }

    private static void nobodySits() {
        Due.by("promise 12: -5: nobody sits at a or b");
        PlateRound x = seated(0);
        x.seat(5);
        x.seat(6);
        Due.is("at a", x.pays(1, 0), -5);
        Due.is("at b", x.pays(0, 1), -5);
        Due.is("at both", x.pays(1, 2), -5);
        Due.is("at a, b = -1", x.pays(1, -1), -5);
        Due.is("nobody pays", x.seatTold(0, 7), NONE);
    }

    private static void paysBadAheadOfNobody() {
        Due.by("promise 12: BAD ahead of -5");
        PlateRound x = new PlateRound(0);
        x.seat(5);
        Due.is("a = b", x.pays(0, 0), BAD);
        Due.is("no such b", x.pays(0, 1), BAD);
        Due.is("no such a", x.pays(1, 0), BAD);
    }

    private static void endsAsThePayerLeaves() {
        Due.by("4: it ends as the GUEST of either leaves: of the one that pays");
        PlateRound x = seated(0, 0);
        Due.rule(x, "take 0; go eaten;");
        x.pays(0, 1);
        x.order(1, 0);
        x.tick(3);
        Due.is("the payer left", x.seatTold(1, 1), NONE);
        Due.is("nobody pays", x.seatTold(0, 7), NONE);
        x.guest(1, 0, 0);
        Due.is("nor the next one there", x.seatTold(0, 7), NONE);
    }

    private static void endsAsThePaidLeaves() {
        Due.by("4: it ends as the GUEST of either leaves: of the one that is paid for");
        PlateRound x = seated(0, 0);
        Due.rule(x, "take 0; go eaten;");
        x.pays(0, 1);
        x.order(0, 0);
        x.tick(2);
        Due.is("it left", x.seatTold(0, 1), NONE);
        Due.is("nobody pays", x.seatTold(0, 7), NONE);
        x.guest(0, 0, 0);
        Due.is("nor for the next one there", x.seatTold(0, 7), NONE);
    }

    private static void ifSomebodySitsThere() {
        Due.by("4 (5): goes to the SEAT that pays for them, if somebody sits there");
        PlateRound x = seated(0, 0);
        Due.rule(x, "take 0; go eaten;");
        x.pays(0, 1);
        x.pays(1, 0);
        x.order(1, 0);
        x.order(0, 0);
        x.tick(3);
        Due.is("both left in one tick, seat 0 first", x.count(3), 0);
        Due.is("seat 1 paid both, nobody sat at seat 0", x.count(7), 200);
        Due.is("no bill is left", x.seatTold(0, 5) + x.seatTold(1, 5), 0);
    }

    private static void putBackOfNoSeat() {
        Due.by("promise 13: BAD");
        PlateRound x = seated(0, 0);
        for (int seat : new int[] {-1, 2, 8, MIN, MAX}) {
            Due.is("putBack(" + seat + ")", x.putBack(seat), BAD);
        }
    }

    // Seat 0 is at place 1, and its guest has eaten plate 0 in this tick.
    private static PlateRound fed(String text) {
        PlateRound x = seated(0);
        Due.rule(x, text);
        x.lay(0);
        x.tick(1);
        return x;
    }

    private static void putBackOfNobody() {
        Due.by("promise 13: STATE: it can't be (nobody sits there)");
        PlateRound x = new PlateRound(0);
        x.seat(1);
        Due.is("nobody sat there", x.putBack(0), STATE);
        PlateRound y = fed("take 1; go eaten;");
        Due.is("it left in this tick", y.putBack(0), STATE);
    }

    private static void putBackOfNothingTaken() {
        Due.by("promise 13: STATE: it can't be (nothing was taken)");
        PlateRound x = seated(0);
        Due.is("ahead of all ticks", x.putBack(0), STATE);
        x.lay(0);
        Due.rule(x, "take 0; go 0;");
        x.tick(1);
        Due.is("it was left there", x.putBack(0), STATE);
        Due.is("it stays", x.at(1), 0);
    }

    private static void putBackOnce() {
        Due.by("4: Once");
        PlateRound x = fed(EAT_ALL);
        Due.is("put back", x.putBack(0), 0);
        Due.is("again", x.putBack(0), STATE);
        x.gone(1);
        Due.is("again, none at its place", x.putBack(0), STATE);
        Due.is("eaten", x.seatTold(0, 2), 0);
    }

    private static void notBehindAnotherTick() {
        Due.by("4: not behind another TICK");
        PlateRound x = fed(EAT_ALL);
        x.tick(1);
        Due.is("a tick later", x.putBack(0), STATE);
        Due.is("it stays eaten", x.plate(0, 3), 2);
        PlateRound y = seated(0);
        Due.rule(y, EAT_ALL);
        y.lay(0);
        y.tick(2);
        Due.is("taken in the first of two", y.putBack(0), STATE);
        PlateRound z = fed(EAT_ALL);
        z.sheet(0, 0, 1);
        z.cell(0, 0, 6);
        Due.is("a tick of lays", z.lays(0, 0, 0, 1), 0);
        Due.is("a tick of lays later", z.putBack(0), STATE);
    }

    private static void notOfATray() {
        Due.by("4: not one that a TRAY brought");
        PlateRound x = seated(0);
        Due.rule(x, EAT_ALL);
        x.order(0, 0);
        x.tick(2);
        Due.is("it is eaten", x.plate(0, 3), 2);
        Due.is("put back", x.putBack(0), STATE);
        x.lay(0);
        x.tick(1);
        x.order(0, 0);
        x.tick(2);
        Due.is("nor the one it took ahead of that", x.putBack(0), STATE);
    }

    private static void ifItSitsThereStill() {
        Due.by("4: if it sits there still");
        PlateRound x = fed("take 1; go eaten;");
        x.guest(0, 0, 0);
        Due.is("somebody else sits there", x.putBack(0), STATE);
        Due.is("it is paid", x.plate(0, 3), 3);
        Due.is("the place is free", x.at(1), NONE);
    }

    private static void eatenOneLess() {
        Due.by("4: it is on the BELT again, EATEN 1 less");
        PlateRound x = fed(EAT_ALL);
        x.lay(0);
        x.tick(1);
        Due.is("eaten", x.seatTold(0, 2), 2);
        Due.is("put back", x.putBack(0), 1);
        Due.is("eaten", x.seatTold(0, 2), 1);
        Due.is("on the bill", x.seatTold(0, 5), 1);
        Due.is("on the belt", x.plate(1, 3), 0);
        Due.is("at its place", x.at(1), 1);
    }

    private static void takenOutside() {
        Due.by("promise 31: BAD: k (ahead of -11)");
        PlateRound x = seated(5);
        x.seat(5);
        for (int k : new int[] {-1, 6, MIN, MAX}) {
            Due.is("taken(0, " + k + ")", x.taken(0, k), BAD);
            Due.is("taken(1, " + k + ")", x.taken(1, k), BAD);
            Due.is("taken(9, " + k + ")", x.taken(9, k), BAD);
        }
        Due.is("taken(0, 0)", x.taken(0, 0), 0);
        Due.is("taken(0, 5)", x.taken(0, 5), 0);
    }

    private static void takenOfNobody() {
        Due.by("promise 31: -11: no such SEAT, or nobody");
        PlateRound x = seated(0);
        x.seat(5);
        for (int seat : new int[] {-1, 1, 2, 8, MIN, MAX}) {
            Due.is("taken(" + seat + ", 0)", x.taken(seat, 0), -11);
            Due.is("taken(" + seat + ", 5)", x.taken(seat, 5), -11);
        }
    }

    private static void takenOfAnotherKind() {
        Due.by("promise 31: -13");
        PlateRound x = seated(0, 1, 2, 3, 4, 5);
        int[][] others = {{0, 1}, {0, 2}, {0, 3}, {0, 4}, {0, 5}, {1, 2}, {1, 5}, {2, 1}, {2, 4}, {3, 1},
            {3, 2}, {4, 1}, {4, 3}, {4, 5}, {5, 2}, {5, 3}, {5, 4}};
        for (int[] pair : others) {
            Due.is("taken(" + pair[0] + ", " + pair[1] + ")", x.taken(pair[0], pair[1]), -13);
        }
    }

    private static void takenByOthersBetween() {
        Due.by("promise 31: or one under that one (also by others between)");
        PlateRound x = seated(0, 1, 2, 3, 4, 5);
        int[][] under = {{0, 0}, {1, 1}, {1, 0}, {2, 2}, {2, 0}, {3, 3}, {3, 0}, {4, 4}, {4, 2}, {4, 0},
            {5, 5}, {5, 1}, {5, 0}};
        for (int[] pair : under) {
            Due.is("taken(" + pair[0] + ", " + pair[1] + ")", x.taken(pair[0], pair[1]), 0);
        }
    }
}
