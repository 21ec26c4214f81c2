/**
 * Part 5 of the terms and promises 22 to 26: a test for each sentence that names an edge.
 * Due.by() has the sentence's words.
 */
public final class EdgesAheadTest {
    private static final int MIN = Integer.MIN_VALUE, MAX = Integer.MAX_VALUE;
    private static final int BAD = PlateRound.BAD, NONE = PlateRound.NONE;
    private static final long NO = PlateRound.NO;
    private static final String EAT_ALL = "take 1; go 0;";

    public static void main(String[] args) {
        choicesOutside();
        moreTicksOutside();
        whichChoiceOutside();
        worthOutside();
        greatestLook();
        leastLook();
        noneIsAChoice();
        layingAheadOfEachTick();
        notLaidWhereThereIsOne();
        freeLaterOn();
        ticksMore();
        fromWhatStandsNow();
        pricesOfAllEaten();
        lessWaste();
        thrownFromTrays();
        thrownTraysDoNotDisturb();
        wasteOutside();
        wasteAtFirst();
        greatestWaste();
        leastWaste();
        lesserChoiceFirst();
        lesserChoiceOfTheFirstDifference();
        worthBelowZero();
        guestsLeaveAhead();
        allIsAsBefore();
        putBackIsAsBefore();
        beyond300();
        beyond300OnTheWay();
        beyond9999Ticks();
        lengthOutside();
        pieceOutside();
        pieceWorthOutside();
        pieceAtFirst();
        halfOfOne();
        halfCut();
        firstAndLastAlone();
        wholeBetween();
        lesserPieceFirst();
        lesserPieceLaterOn();
        noSuchPiece();
        longestFish();
        shortestFish();
        piecesAtMostTheLength();
        Due.end();
    }

    private static PlateRound ruled(String text, int... places) {
        PlateRound x = new PlateRound(0);
        for (int seat = 0; seat < places.length; seat++) {
            x.seat(places[seat]);
            x.guest(seat, 0, 0);
        }
        Due.rule(x, text);
        return x;
    }

    private static void row(PlateRound x, int k, int t, long worth, int... choices) {
        for (int i = 0; i < k; i++) {
            Due.is("ahead(" + k + ", " + t + ", " + i + ")", x.ahead(k, t, i), choices[i]);
        }
        Due.is("worth(" + k + ", " + t + ")", x.worth(k, t), worth);
    }

    private static void choicesOutside() {
        Due.by("5: k (1 .. 3); promise 23: BAD: k");
        PlateRound x = new PlateRound(0);
        for (int k : new int[] {0, 4, -1, MIN, MAX}) {
            Due.is("ahead(" + k + ", 0, 0)", x.ahead(k, 0, 0), BAD);
            Due.is("ahead(" + k + ", 24, 0)", x.ahead(k, 24, 0), BAD);
        }
        Due.is("ahead(1, 0, 0)", x.ahead(1, 0, 0), 0);
        Due.is("ahead(3, 0, 0)", x.ahead(3, 0, 0), 0);
    }

    private static void moreTicksOutside() {
        Due.by("5: t (0 .. 24); promise 23: BAD: t");
        PlateRound x = new PlateRound(0);
        for (int t : new int[] {-1, 25, MIN, MAX}) {
            Due.is("ahead(1, " + t + ", 0)", x.ahead(1, t, 0), BAD);
            Due.is("ahead(3, " + t + ", 0)", x.ahead(3, t, 0), BAD);
        }
        Due.is("ahead(1, 0, 0)", x.ahead(1, 0, 0), 0);
        Due.is("ahead(1, 24, 0)", x.ahead(1, 24, 0), 6);
    }

    private static void whichChoiceOutside() {
        Due.by("promise 23: choice i (0 .. k - 1). BAD: i");
        PlateRound x = new PlateRound(0);
        for (int k = 1; k <= 3; k++) {
            for (int i : new int[] {-1, k, MIN, MAX}) {
                Due.is("ahead(" + k + ", 0, " + i + ")", x.ahead(k, 0, i), BAD);
            }
            Due.is("ahead(" + k + ", 0, " + (k - 1) + ")", x.ahead(k, 0, k - 1), 0);
        }
    }

    private static void worthOutside() {
        Due.by("promise 24: NO: k, t");
        PlateRound x = new PlateRound(0);
        for (int k : new int[] {0, 4, -1, MIN, MAX}) {
            Due.is("worth(" + k + ", 0)", x.worth(k, 0), NO);
        }
        for (int t : new int[] {-1, 25, MIN, MAX}) {
            Due.is("worth(1, " + t + ")", x.worth(1, t), NO);
        }
        Due.is("worth(1, 0)", x.worth(1, 0), 0);
        Due.is("worth(3, 24)", x.worth(3, 24), 0);
    }

    private static void greatestLook() {
        Due.by("5: k 3 and t 24");
        PlateRound x = ruled(EAT_ALL, 5);
        x.price(1, 999);
        row(x, 3, 24, 2997, 1, 1, 1);
    }

    private static void leastLook() {
        Due.by("5: k 1 and t 0");
        PlateRound x = ruled(EAT_ALL, 1, 2);
        x.price(4, 101);
        row(x, 1, 0, 101, 4);
        PlateRound y = ruled(EAT_ALL, 2);
        row(y, 1, 0, 0, 0);
        row(y, 1, 1, 100, 0);
    }

    private static void noneIsAChoice() {
        Due.by("5: a DISH, or none (6)");
        PlateRound x = new PlateRound(0);
        for (int dish = 0; dish < 6; dish++) {
            x.dish(dish, 0, 5);
        }
        row(x, 1, 4, 0, 0);
        row(x, 1, 5, 0, 6);
        x.dish(5, 0, 60);
        row(x, 1, 5, 0, 5);
    }

    private static void layingAheadOfEachTick() {
        Due.by("5: Ahead of each of k TICKS the choice is laid at the HATCH");
        PlateRound x = ruled(EAT_ALL, 1);
        row(x, 1, 0, 100, 0);
        row(x, 2, 0, 200, 0, 0);
        row(x, 3, 0, 300, 0, 0, 0);
        PlateRound y = ruled(EAT_ALL, 2);
        row(y, 3, 0, 200, 0, 0, 0);
        row(y, 3, 1, 300, 0, 0, 0);
    }

    private static void notLaidWhereThereIsOne() {
        Due.by("5: if that is free (else nothing)");
        PlateRound x = ruled(EAT_ALL, 2);
        x.price(3, 999);
        x.lay(1);
        row(x, 1, 24, 100, 0);
        row(x, 2, 24, 1099, 0, 3);
    }

    private static void freeLaterOn() {
        Due.by("5: if that is free: by what comes round in these TICKS");
        PlateRound x = ruled("take age<6; go 0;", 1);
        x.price(3, 999);
        x.lay(0);
        x.gone(0);
        x.force(0);
        x.lay(1);
        x.tick(5);
        x.force(1);
        Due.is("at the last place", x.at(5), 1);
        row(x, 2, 0, 999, 3, 0);
        x.dish(1, 1, 5);
        row(x, 2, 0, 2 * 999 - 50, 3, 3);
    }

    private static void ticksMore() {
        Due.by("5: then t TICKS more go by");
        PlateRound x = ruled(EAT_ALL, 5);
        row(x, 1, 3, 0, 0);
        row(x, 1, 4, 100, 0);
        row(x, 2, 3, 100, 0, 0);
        row(x, 3, 3, 200, 0, 0, 0);
    }

    private static void fromWhatStandsNow() {
        Due.by("5: AHEAD: of the object as it stands: WAITED, EATEN, LIKES, AGE");
        PlateRound x = ruled("take waited=5; go 0;", 1);
        x.tick(4);
        row(x, 2, 0, 100, 0, 0);
        row(x, 1, 0, 0, 0);
        x.tick(1);
        row(x, 1, 0, 100, 0);
        PlateRound y = ruled("take 1; go eaten=2;", 1);
        y.lay(0);
        y.tick(1);
        row(y, 3, 0, 100, 0, 0, 0);
        PlateRound z = ruled("take like=7 and age=4; go 0;");
        z.seat(4);
        z.guest(0, 0, 70);
        z.lay(1);
        z.tick(3);
        row(z, 1, 0, 100, 0);
        row(z, 1, 3, 200, 1);
    }

    private static void pricesOfAllEaten() {
        Due.by("5: WORTH: PRICES of all that is EATEN in these");
        PlateRound x = ruled(EAT_ALL, 1, 2);
        x.price(0, 1);
        x.price(1, 20);
        x.price(2, 300);
        x.lay(0);
        Due.is("eaten ahead of these", x.tick(1), 1);
        x.order(1, 1);
        row(x, 1, 0, 300, 2);
        row(x, 1, 2, 320, 2);
    }

    private static void lessWaste() {
        Due.by("5: less WASTE for each that is THROWN in these");
        PlateRound x = new PlateRound(0);
        x.dish(0, 0, 1);
        x.lay(0);
        x.tick(1);
        x.lay(0);
        x.tick(1);
        row(x, 1, 2, 0, 0);
        row(x, 1, 3, -50, 0);
        row(x, 1, 4, -100, 0);
        row(x, 1, 5, -100, 1);
        x.gone(1);
        row(x, 1, 4, -50, 0);
        x.gone(2);
        row(x, 1, 4, 0, 0);
        row(x, 1, 5, 0, 1);
    }

    private static void thrownFromTrays() {
        Due.by("5: each that is THROWN: from TRAYS, too");
        PlateRound x = ruled("take 0; go eaten;", 1);
        x.order(0, 0);
        x.order(0, 0);
        x.tick(2);
        Due.is("the guest left", x.count(3), 0);
        row(x, 1, 0, 0, 0);
        row(x, 1, 1, -50, 0);
        row(x, 1, 9, -50, 0);
    }

    private static void thrownTraysDoNotDisturb() {
        Due.by("5: All is as before then: THE LANE");
        PlateRound x = ruled("take 0; go eaten;", 1);
        x.order(0, 0);
        x.order(0, 0);
        x.order(0, 0);
        x.worth(3, 24);
        Due.is("waiting", x.count(6), 3);
        Due.is("in the lane", x.count(5), 0);
        Due.is("one is eaten", x.tick(2), 1);
        x.worth(3, 24);
        Due.is("cell 0", x.lane(0), 0);
        Due.is("waiting", x.count(6), 1);
    }

    private static void wasteOutside() {
        Due.by("5: WASTE (0 .. 999); promise 22: BAD");
        PlateRound x = new PlateRound(0);
        for (int n : new int[] {-1, 1000, MIN, MAX}) {
            Due.is("waste(" + n + ")", x.waste(n), BAD);
        }
        Due.is("waste(0)", x.waste(0), 50);
        Due.is("waste(999)", x.waste(999), 0);
        Due.is("waste(1000)", x.waste(1000), BAD);
        Due.is("what it was", x.waste(1), 999);
    }

    private static PlateRound stale() {
        PlateRound x = new PlateRound(0);
        x.dish(0, 0, 1);
        x.lay(0);
        x.tick(5);
        return x;
    }

    private static void wasteAtFirst() {
        Due.by("5: WASTE (50 at first)");
        Due.is("worth(1, 0)", stale().worth(1, 0), -50);
    }

    private static void greatestWaste() {
        Due.by("5: a WASTE of 999");
        PlateRound x = stale();
        x.waste(999);
        Due.is("worth(1, 0)", x.worth(1, 0), -999);
    }

    private static void leastWaste() {
        Due.by("5: a WASTE of 0");
        PlateRound x = stale();
        x.waste(0);
        Due.is("worth(1, 0)", x.worth(1, 0), 0);
    }

    private static void lesserChoiceFirst() {
        Due.by("5: of like ones the one with the lesser choice first");
        PlateRound x = ruled(EAT_ALL, 1);
        row(x, 3, 0, 300, 0, 0, 0);
        x.price(0, 99);
        row(x, 3, 0, 300, 1, 1, 1);
        x.price(1, 99);
        row(x, 3, 0, 300, 2, 2, 2);
        x.price(4, 101);
        row(x, 3, 0, 303, 4, 4, 4);
        PlateRound y = new PlateRound(0);
        row(y, 3, 0, 0, 0, 0, 0);
    }

    private static void lesserChoiceOfTheFirstDifference() {
        Due.by("5: the lesser choice first: the first one in which they are unlike");
        PlateRound x = new PlateRound(0);
        Due.rule(x, "take like=3; go eaten;");
        x.seat(1);
        x.guest(0, 0, 300);
        row(x, 3, 0, 100, 0, 0, 2);
        row(x, 2, 0, 100, 0, 2);
        row(x, 1, 0, 100, 2);
    }

    private static void worthBelowZero() {
        Due.by("5: THE ROW: of the greatest WORTH, though it is below 0");
        PlateRound x = stale();
        x.waste(1);
        row(x, 1, 0, -1, 0);
        row(x, 2, 24, -1, 6, 6);
    }

    private static void guestsLeaveAhead() {
        Due.by("5: TICKS go by ahead: guests leave in these, too");
        PlateRound x = ruled("take 1; go eaten=2;", 1);
        row(x, 3, 0, 200, 0, 0, 0);
        row(x, 3, 24, 200, 0, 0, 6);
        Due.is("it sits there", x.count(3), 1);
        Due.is("nothing is paid", x.count(7), 0);
    }

    private static void allIsAsBefore() {
        Due.by("5: All is as before then");
        PlateRound x = ruled("take 1; go eaten=2;", 1, 3);
        x.pays(0, 1);
        x.lay(2);
        x.tick(1);
        x.lay(3);
        x.order(1, 4);
        long[] before = Whole.told(x);
        PlateRound y = ruled("take 1; go eaten=2;", 1, 3);
        y.pays(0, 1);
        y.lay(2);
        y.tick(1);
        y.lay(3);
        y.order(1, 4);
        for (int k = 1; k <= 3; k++) {
            y.worth(k, 24);
            y.ahead(k, 7, 0);
        }
        Whole.same("behind worth() and ahead()", Whole.told(y), before);
    }

    private static void putBackIsAsBefore() {
        Due.by("5: All is as before then: TO PUT BACK");
        PlateRound x = ruled(EAT_ALL, 1);
        x.lay(0);
        x.tick(1);
        x.worth(3, 24);
        x.ahead(3, 24, 0);
        Due.is("put back", x.putBack(0), 0);
        PlateRound y = ruled(EAT_ALL, 1);
        y.lay(0);
        y.worth(1, 0);
        Due.is("eaten ahead alone", y.putBack(0), PlateRound.STATE);
    }

    private static PlateRound withPlates(int number) {
        PlateRound x = ruled(EAT_ALL, 1);
        x.sheet(0, 0, 24);
        for (int made = 0; made < number; made += 24) {
            int n = Math.min(24, number - made);
            Due.is("lays", x.lays(0, 0, 0, n), n);
        }
        return x;
    }

    private static void beyond300() {
        Due.by("5: (Beyond 300 PLATES nothing is laid.)");
        PlateRound x = withPlates(300);
        row(x, 3, 24, 0, 0, 0, 0);
        Due.is("plates", x.count(1), 300);
    }

    private static void beyond300OnTheWay() {
        Due.by("5: (Beyond 300 PLATES nothing is laid.): on the way");
        PlateRound x = withPlates(299);
        row(x, 3, 24, 100, 0, 0, 0);
        x.price(2, 500);
        row(x, 3, 24, 500, 2, 0, 0);
        Due.is("plates", x.count(1), 299);
        PlateRound y = withPlates(298);
        row(y, 3, 24, 200, 0, 0, 0);
    }

    private static void beyond9999Ticks() {
        Due.by("5: TICKS ahead are none that go by: no FULL is named");
        PlateRound x = new PlateRound(0);
        for (int i = 0; i < 166; i++) {
            x.tick(60);
        }
        x.tick(39);
        x.seat(1);
        x.guest(0, 0, 9);
        Due.is("worth(1, 0)", x.worth(1, 0), 100);
        Due.is("ahead(3, 24, 0)", x.ahead(3, 24, 0), 0);
        Due.is("ticks", x.count(4), 9999);
    }

    private static void lengthOutside() {
        Due.by("5: a length l (1 .. 30); promise 26: BAD: length");
        PlateRound x = new PlateRound(0);
        for (int length : new int[] {0, 31, -1, MIN, MAX}) {
            Due.is("cut(" + length + ", -1)", x.cut(length, -1), BAD);
            Due.is("cut(" + length + ", 0)", x.cut(length, 0), BAD);
        }
        Due.is("cut(1, -1)", x.cut(1, -1), 0);
        Due.is("cut(30, -1)", x.cut(30, -1), 0);
    }

    private static void pieceOutside() {
        Due.by("5: PIECES (1 .. 6 each); promise 25: BAD");
        PlateRound x = new PlateRound(0);
        for (int length : new int[] {0, 7, -1, MIN, MAX}) {
            Due.is("piece(" + length + ", 0)", x.piece(length, 0), BAD);
        }
        Due.is("piece(1, 1)", x.piece(1, 1), 0);
        Due.is("piece(6, 6)", x.piece(6, 6), 0);
        Due.is("piece(1, 0)", x.piece(1, 0), 1);
        Due.is("piece(6, 0)", x.piece(6, 0), 6);
    }

    private static void pieceWorthOutside() {
        Due.by("5: WORTH(p) (0 .. 999; promise 25: BAD");
        PlateRound x = new PlateRound(0);
        for (int n : new int[] {-1, 1000, MIN, MAX}) {
            Due.is("piece(2, " + n + ")", x.piece(2, n), BAD);
        }
        Due.is("piece(2, 999)", x.piece(2, 999), 0);
        Due.is("piece(2, 0)", x.piece(2, 0), 999);
        Due.is("piece(2, 0)", x.piece(2, 0), 0);
    }

    private static void pieceAtFirst() {
        Due.by("5: WORTH(p) (at first 0)");
        PlateRound x = new PlateRound(0);
        for (int length = 1; length <= 6; length++) {
            Due.is("piece(" + length + ", 1)", x.piece(length, 1), 0);
        }
    }

    private static PlateRound pieces(int... worths) {
        PlateRound x = new PlateRound(0);
        for (int i = 0; i < worths.length; i++) {
            x.piece(i + 1, worths[i]);
        }
        return x;
    }

    private static void halfOfOne() {
        Due.by("5: the first one and the last one (also if it is one) half of it");
        PlateRound x = pieces(0, 0, 0, 0, 0, 800);
        Due.is("one piece of 6", x.cut(6, -1), 400);
        Due.is("its length", x.cut(6, 0), 6);
        Due.is("no second", x.cut(6, 1), NONE);
    }

    private static void halfCut() {
        Due.by("5: half of it, cut");
        PlateRound x = pieces(999);
        Due.is("one", x.cut(1, -1), 499);
        Due.is("two", x.cut(2, -1), 998);
        Due.is("three", x.cut(3, -1), 1997);
        PlateRound y = pieces(1);
        Due.is("a half of 1", y.cut(1, -1), 0);
        Due.is("two halves of 1", y.cut(2, -1), 0);
        Due.is("and a whole one between", y.cut(3, -1), 1);
    }

    private static void firstAndLastAlone() {
        Due.by("5: the first one and the last one: of two both");
        PlateRound x = pieces(100, 150);
        Due.is("two of 1", x.cut(2, -1), 100);
        Due.is("the first", x.cut(2, 0), 1);
        Due.is("the second", x.cut(2, 1), 1);
        Due.is("no third", x.cut(2, 2), NONE);
    }

    private static void wholeBetween() {
        Due.by("5: a PIECE of length p brings WORTH(p)");
        PlateRound x = pieces(0, 0, 0, 0, 700);
        Due.is("cut(7)", x.cut(7, -1), 700);
        Due.is("the first", x.cut(7, 0), 1);
        Due.is("the one between", x.cut(7, 1), 5);
        Due.is("the last", x.cut(7, 2), 1);
        Due.is("no more", x.cut(7, 3), NONE);
        Due.is("without an end to spare", x.cut(6, -1), 350);
        Due.is("the lesser first", x.cut(6, 0), 1);
    }

    private static void lesserPieceFirst() {
        Due.by("5: of like ones the one with the lesser PIECE first");
        PlateRound x = pieces(0, 100, 100);
        Due.is("1, 2, 2 and 2, 2, 1 bring", x.cut(5, -1), 150);
        int[] due = {1, 2, 2, NONE};
        for (int i = 0; i < due.length; i++) {
            Due.is("cut(5, " + i + ")", x.cut(5, i), due[i]);
        }
        PlateRound y = pieces(10, 20);
        Due.is("1, 1 and 2 bring", y.cut(2, -1), 10);
        Due.is("1 first", y.cut(2, 0), 1);
    }

    private static void lesserPieceLaterOn() {
        Due.by("5: the lesser PIECE first: the first one in which they are unlike");
        PlateRound x = pieces(10, 20, 30, 40, 50, 60);
        Due.is("1, 1, 1, 1, 1 and 1, 2, 1, 1 and 1, 3, 1 bring", x.cut(5, -1), 40);
        for (int i = 0; i < 5; i++) {
            Due.is("cut(5, " + i + ")", x.cut(5, i), 1);
        }
        x.piece(3, 31);
        int[] due = {1, 3, 1, NONE};
        for (int i = 0; i < due.length; i++) {
            Due.is("cut(5, " + i + ")", x.cut(5, i), due[i]);
        }
    }

    private static void noSuchPiece() {
        Due.by("promise 26: NONE: no such PIECE");
        PlateRound x = pieces(2, 4);
        Due.is("cut(3, 2)", x.cut(3, 2), 1);
        for (int i : new int[] {-2, 3, 4, 30, MIN, MAX}) {
            Due.is("cut(3, " + i + ")", x.cut(3, i), NONE);
        }
    }

    private static void longestFish() {
        Due.by("5: a length of 30");
        PlateRound x = pieces(0, 0, 0, 0, 0, 999);
        Due.is("four of six between ends", x.cut(30, -1), 4 * 999);
        PlateRound y = pieces(2);
        Due.is("thirty of one", y.cut(30, -1), 58);
        Due.is("the last", y.cut(30, 29), 1);
        Due.is("no more", y.cut(30, 30), NONE);
    }

    private static void shortestFish() {
        Due.by("5: a length of 1");
        PlateRound x = pieces(9, 999, 999, 999, 999, 999);
        Due.is("what it brings", x.cut(1, -1), 4);
        Due.is("its piece", x.cut(1, 0), 1);
        Due.is("no more", x.cut(1, 1), NONE);
    }

    private static void piecesAtMostTheLength() {
        Due.by("5: is cut into PIECES: none is longer than what is left");
        PlateRound x = pieces(2, 0, 0, 0, 0, 999);
        for (int length = 1; length <= 5; length++) {
            Due.is("cut(" + length + ", -1)", x.cut(length, -1), length == 1 ? 1 : 2 * length - 2);
        }
        Due.is("cut(6, -1)", x.cut(6, -1), 499);
    }
}
