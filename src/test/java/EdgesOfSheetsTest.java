/**
 * Part 6 of the terms and promises 28 to 30: a test for each sentence that names an edge.
 * Due.by() has the sentence's words.
 */
public final class EdgesOfSheetsTest {
    private static final int MIN = Integer.MIN_VALUE, MAX = Integer.MAX_VALUE;
    private static final int BAD = PlateRound.BAD, NONE = PlateRound.NONE, STATE = PlateRound.STATE, FULL = PlateRound.FULL;
    private static final int NOTHING = -11, OUTSIDE = -12, OTHER = -13, BELOW = -14;

    public static void main(String[] args) {
        constants();
        sheetNumbers();
        missingAtFirst();
        sortNumbers();
        fortyItems();
        noItems();
        sizeBelowZero();
        badAheadOfBelow();
        missingAnew();
        sizeOfAMissingOne();
        allZero();
        allZeroAnew();
        shorterAnew();
        cellOfAMissingOne();
        cellOutside();
        nothingAheadOfOutside();
        lowestBitsOfBytes();
        lowestBitsOfShorts();
        intsAsTheyAre();
        laysSheetNumbers();
        laysSortNumbers();
        laysNumbers();
        laysNone();
        laysAll24();
        laysBeyond9999();
        laysUpTo9999();
        laysBadAheadOfFull();
        laysFullAheadOfTheOthers();
        laysOfAnotherSort();
        laysOfAMissingOne();
        laysOtherSortAheadOfOutside();
        laysFromOutside();
        laysBehindTheLast();
        laysWhatStoodAhead();
        laysNoDish();
        laysWhereThereIsOne();
        laysBeyond300();
        laysATickBehindEach();
        Due.end();
    }

    private static PlateRound ofInts(int... items) {
        PlateRound x = new PlateRound(6);
        x.sheet(0, 2, items.length);
        for (int i = 0; i < items.length; i++) {
            Due.is("cell(0, " + i + ", " + items[i] + ")", x.cell(0, i, items[i]), 1);
        }
        return x;
    }

    private static void constants() {
        Due.by("the public face: NONE = -1, BAD = -2, STATE = -3, FULL = -4, NO");
        Due.is("NONE", NONE, -1);
        Due.is("BAD", BAD, -2);
        Due.is("STATE", STATE, -3);
        Due.is("FULL", FULL, -4);
        Due.is("NO", PlateRound.NO, -4611686018427387904L);
    }

    private static void sheetNumbers() {
        Due.by("6: SHEETS 0 .. 3; promise 28: BAD: no such SHEET");
        PlateRound x = new PlateRound(0);
        for (int sheet : new int[] {-1, 4, MIN, MAX}) {
            Due.is("sheet(" + sheet + ", 0, 1)", x.sheet(sheet, 0, 1), BAD);
            Due.is("sheet(" + sheet + ", -1, 1)", x.sheet(sheet, -1, 1), BAD);
            Due.is("cell(" + sheet + ", 0, 1)", x.cell(sheet, 0, 1), BAD);
        }
        for (int sheet = 0; sheet < 4; sheet++) {
            Due.is("sheet(" + sheet + ", 0, 1)", x.sheet(sheet, 0, 1), 1);
            Due.is("cell(" + sheet + ", 0, 1)", x.cell(sheet, 0, 1), 1);
        }
    }

    private static void missingAtFirst() {
        Due.by("6: or missing (as all are at first)");
        PlateRound x = new PlateRound(0);
        for (int sheet = 0; sheet < 4; sheet++) {
            Due.is("cell", x.cell(sheet, 0, 1), NOTHING);
            for (int sort = 0; sort < 3; sort++) {
                Due.is("lays", x.lays(sheet, sort, 0, 1), NOTHING);
            }
        }
        Due.is("no tick", x.count(4), 0);
    }

    private static void sortNumbers() {
        Due.by("6: of sort 0 bytes, 1 shorts, 2 ints; promise 28: BAD: no such sort");
        PlateRound x = new PlateRound(0);
        for (int sort : new int[] {-2, 3, MIN, MAX}) {
            Due.is("sheet(0, " + sort + ", 1)", x.sheet(0, sort, 1), BAD);
        }
        Due.is("missing still", x.cell(0, 0, 1), NOTHING);
        for (int sort = -1; sort < 3; sort++) {
            Due.is("sheet(0, " + sort + ", 1)", x.sheet(0, sort, 1), 1);
        }
    }

    private static void fortyItems() {
        Due.by("promise 28: BAD: n above 40");
        PlateRound x = new PlateRound(0);
        for (int n : new int[] {41, 1000, MAX}) {
            Due.is("sheet(0, 0, " + n + ")", x.sheet(0, 0, n), BAD);
        }
        Due.is("missing still", x.cell(0, 0, 1), NOTHING);
        Due.is("sheet(0, 0, 40)", x.sheet(0, 0, 40), 1);
        Due.is("its last item", x.cell(0, 39, 1), 1);
        Due.is("behind it", x.cell(0, 40, 1), OUTSIDE);
    }

    private static void noItems() {
        Due.by("promise 28: a row of n: of none");
        PlateRound x = new PlateRound(0);
        Due.is("sheet(0, 0, 0)", x.sheet(0, 0, 0), 1);
        Due.is("it is not missing", x.cell(0, 0, 1), OUTSIDE);
        Due.is("lays one", x.lays(0, 0, 0, 1), OUTSIDE);
        Due.is("lays none", x.lays(0, 0, 0, 0), 0);
    }

    private static void sizeBelowZero() {
        Due.by("promise 28: -14: a size below 0");
        PlateRound x = new PlateRound(0);
        for (int n : new int[] {-1, -41, MIN}) {
            Due.is("sheet(0, 0, " + n + ")", x.sheet(0, 0, n), BELOW);
        }
        Due.is("missing still", x.cell(0, 0, 1), NOTHING);
        x.sheet(0, 0, 3);
        Due.is("sheet(0, 0, -1)", x.sheet(0, 0, -1), BELOW);
        Due.is("it stays", x.cell(0, 2, 1), 1);
    }

    private static void badAheadOfBelow() {
        Due.by("promise 28: BAD ahead of -14");
        PlateRound x = new PlateRound(0);
        Due.is("no such sheet", x.sheet(4, 0, -1), BAD);
        Due.is("no such sort", x.sheet(0, 3, -1), BAD);
        Due.is("no such sort", x.sheet(0, -2, -1), BAD);
    }

    private static void missingAnew() {
        Due.by("promise 28: or missing (sort -1)");
        PlateRound x = ofInts(1, 2, 3);
        Due.is("lays", x.lays(0, 2, 0, 1), 1);
        Due.is("missing", x.sheet(0, -1, 0), 1);
        Due.is("cell", x.cell(0, 0, 1), NOTHING);
        Due.is("lays", x.lays(0, 2, 0, 1), NOTHING);
    }

    private static void sizeOfAMissingOne() {
        Due.by("promise 28: (sort -1: n does not matter)");
        PlateRound x = new PlateRound(0);
        for (int n : new int[] {-1, 41, 0, 40, MIN, MAX}) {
            x.sheet(0, 0, 1);
            Due.is("sheet(0, -1, " + n + ")", x.sheet(0, -1, n), 1);
            Due.is("missing", x.cell(0, 0, 1), NOTHING);
        }
    }

    private static void allZero() {
        Due.by("promise 28: a row of n of a sort, all 0");
        for (int sort = 0; sort < 3; sort++) {
            PlateRound x = new PlateRound(6);
            x.dish(0, 0, 1);
            x.sheet(0, sort, 12);
            Due.is("twelve are laid", x.lays(0, sort, 0, 12), 12);
            for (int plate = 0; plate < 12; plate++) {
                Due.is("dish of " + plate, x.plate(plate, 0), 0);
            }
        }
    }

    private static void allZeroAnew() {
        Due.by("promise 28: A SHEET becomes a row, all 0: one that was a row");
        PlateRound x = ofInts(1, 2, 3);
        x.sheet(0, 2, 3);
        x.lays(0, 2, 0, 3);
        for (int plate = 0; plate < 3; plate++) {
            Due.is("dish of " + plate, x.plate(plate, 0), 0);
        }
        PlateRound y = ofInts(1, 2, 3);
        y.sheet(0, -1, 3);
        y.sheet(0, 2, 3);
        y.lays(0, 2, 0, 3);
        for (int plate = 0; plate < 3; plate++) {
            Due.is("it was missing: dish of " + plate, y.plate(plate, 0), 0);
        }
    }

    private static void shorterAnew() {
        Due.by("promise 28: a row of n: shorter and longer than it was");
        PlateRound x = ofInts(1, 2, 3);
        x.sheet(0, 2, 2);
        Due.is("its last", x.cell(0, 1, 1), 1);
        Due.is("behind it", x.cell(0, 2, 1), OUTSIDE);
        x.sheet(0, 2, 3);
        Due.is("longer", x.cell(0, 2, 1), 1);
        Due.is("behind it", x.cell(0, 3, 1), OUTSIDE);
    }

    private static void cellOfAMissingOne() {
        Due.by("promise 29: -11");
        PlateRound x = new PlateRound(0);
        x.sheet(1, 0, 2);
        Due.is("missing", x.cell(0, 0, 0), NOTHING);
        Due.is("not missing", x.cell(1, 0, 0), 1);
        x.sheet(1, -1, 2);
        Due.is("missing again", x.cell(1, 0, 0), NOTHING);
    }

    private static void cellOutside() {
        Due.by("promise 29: -12");
        PlateRound x = ofInts(1, 2, 3);
        for (int i : new int[] {-1, 3, 39, 40, MIN, MAX}) {
            Due.is("cell(0, " + i + ", 5)", x.cell(0, i, 5), OUTSIDE);
        }
        Due.is("the first", x.cell(0, 0, 5), 1);
        Due.is("the last", x.cell(0, 2, 5), 1);
    }

    private static void nothingAheadOfOutside() {
        Due.by("promise 29: BAD, -11, -12, the first of them");
        PlateRound x = new PlateRound(0);
        Due.is("missing, outside", x.cell(0, -1, 5), NOTHING);
        Due.is("missing, outside", x.cell(0, 40, 5), NOTHING);
        Due.is("no such sheet, outside", x.cell(4, -1, 5), BAD);
    }

    private static void lowestBits(int sort, int[] values, int[] dishes) {
        for (int i = 0; i < values.length; i++) {
            PlateRound x = new PlateRound(0);
            x.sheet(0, sort, 1);
            Due.is("cell(0, 0, " + values[i] + ")", x.cell(0, 0, values[i]), 1);
            boolean laid = dishes[i] >= 0;
            Due.is("lays " + values[i], x.lays(0, sort, 0, 1), laid ? 1 : 0);
            Due.is("dish of " + values[i], x.plate(0, 0), laid ? dishes[i] : BAD);
        }
    }

    private static void lowestBitsOfBytes() {
        Due.by("promise 29: (of bytes its lowest 8 bits)");
        lowestBits(0, new int[] {5, 256, 257, -256, -255, 65536 + 256 + 3, MIN, MIN + 4, 128, 255, -1, MAX, 6},
            new int[] {5, 0, 1, 0, 1, 3, 0, 4, -1, -1, -1, -1, -1});
    }

    private static void lowestBitsOfShorts() {
        Due.by("promise 29: (of shorts its lowest 16 bits)");
        lowestBits(1, new int[] {5, 65536, 65537, -65536, -65535, MIN, MIN + 4, 256, 257, 32768, 65535, -1, MAX, 6},
            new int[] {5, 0, 1, 0, 1, 0, 4, -1, -1, -1, -1, -1, -1, -1});
    }

    private static void intsAsTheyAre() {
        Due.by("promise 29: Item i of a SHEET becomes v: of ints all of it");
        lowestBits(2, new int[] {5, 0, 65536, 256, -65536, MIN, MIN + 4, MAX, -1, 6},
            new int[] {5, 0, -1, -1, -1, -1, -1, -1, -1, -1});
    }

    private static void laysSheetNumbers() {
        Due.by("promise 30: BAD: no such SHEET");
        PlateRound x = new PlateRound(0);
        for (int sheet : new int[] {-1, 4, MIN, MAX}) {
            Due.is("lays(" + sheet + ", 0, 0, 1)", x.lays(sheet, 0, 0, 1), BAD);
        }
        x.sheet(3, 0, 1);
        Due.is("lays(3, 0, 0, 1)", x.lays(3, 0, 0, 1), 1);
    }

    private static void laysSortNumbers() {
        Due.by("promise 30: BAD: no such sort");
        PlateRound x = ofInts(1, 2);
        for (int sort : new int[] {-1, 3, MIN, MAX}) {
            Due.is("lays(0, " + sort + ", 0, 1)", x.lays(0, sort, 0, 1), BAD);
            Due.is("of a missing one", x.lays(1, sort, 0, 1), BAD);
        }
    }

    private static void laysNumbers() {
        Due.by("promise 30: n of them (0 .. 24). BAD: n");
        PlateRound x = ofInts(new int[30]);
        for (int n : new int[] {-1, 25, MIN, MAX}) {
            Due.is("lays(0, 2, 0, " + n + ")", x.lays(0, 2, 0, n), BAD);
            Due.is("of a missing one", x.lays(1, 2, 0, n), BAD);
        }
        Due.is("no tick", x.count(4), 0);
    }

    private static void laysNone() {
        Due.by("promise 30: n of them (0");
        PlateRound x = ofInts(1, 2);
        Due.is("lays none", x.lays(0, 2, 0, 0), 0);
        Due.is("no tick", x.count(4), 0);
        Due.is("no plate", x.count(1), 0);
    }

    private static void laysAll24() {
        Due.by("promise 30: n of them (24)");
        PlateRound x = ofInts(new int[24]);
        x.dish(0, 0, 1);
        Due.is("lays 24", x.lays(0, 2, 0, 24), 24);
        Due.is("ticks", x.count(4), 24);
        Due.is("plates", x.count(1), 24);
    }

    private static PlateRound aged(int ticks) {
        PlateRound x = ofInts(0, 1, 2);
        for (int left = ticks; left > 0; left -= 60) {
            x.tick(Math.min(60, left));
        }
        return x;
    }

    private static void laysBeyond9999() {
        Due.by("promise 30: FULL: beyond 9999 TICKS (nothing is done)");
        PlateRound x = aged(9998);
        Due.is("two more", x.lays(0, 2, 0, 2), FULL);
        Due.is("ticks", x.count(4), 9998);
        Due.is("plates", x.count(1), 0);
        PlateRound y = aged(9999);
        Due.is("one more", y.lays(0, 2, 0, 1), FULL);
        Due.is("24 more", y.lays(0, 2, 0, 24), FULL);
    }

    private static void laysUpTo9999() {
        Due.by("promise 30: FULL: beyond 9999 TICKS (not up to them)");
        PlateRound x = aged(9997);
        Due.is("two more", x.lays(0, 2, 0, 2), 2);
        Due.is("ticks", x.count(4), 9999);
        Due.is("none more", x.lays(0, 2, 0, 0), 0);
    }

    private static void laysBadAheadOfFull() {
        Due.by("promise 30: BAD ahead of FULL");
        PlateRound x = aged(9999);
        Due.is("no such sheet", x.lays(4, 2, 0, 1), BAD);
        Due.is("no such sort", x.lays(0, 3, 0, 1), BAD);
        Due.is("n", x.lays(0, 2, 0, 25), BAD);
    }

    private static void laysFullAheadOfTheOthers() {
        Due.by("promise 30: FULL ahead of -13, -11, -12");
        PlateRound x = aged(9999);
        Due.is("of another sort", x.lays(0, 1, 0, 1), FULL);
        Due.is("missing", x.lays(1, 1, 0, 1), FULL);
        Due.is("outside", x.lays(0, 2, 3, 1), FULL);
    }

    private static void laysOfAnotherSort() {
        Due.by("promise 30: -13");
        for (int is = 0; is < 3; is++) {
            for (int sort = 0; sort < 3; sort++) {
                PlateRound x = new PlateRound(0);
                x.sheet(0, is, 1);
                Due.is("a sheet of sort " + is + " taken for " + sort, x.lays(0, sort, 0, 1), is == sort ? 1 : OTHER);
                Due.is("ticks", x.count(4), is == sort ? 1 : 0);
            }
        }
    }

    private static void laysOfAMissingOne() {
        Due.by("promise 30: -11");
        PlateRound x = ofInts(1, 2);
        x.sheet(0, -1, 0);
        for (int sort = 0; sort < 3; sort++) {
            for (int n : new int[] {0, 1, 24}) {
                Due.is("lays(0, " + sort + ", 0, " + n + ")", x.lays(0, sort, 0, n), NOTHING);
            }
        }
        Due.is("no tick", x.count(4), 0);
    }

    private static void laysOtherSortAheadOfOutside() {
        Due.by("promise 30: -13 and -11 ahead of -12");
        PlateRound x = ofInts(1, 2);
        Due.is("of another sort, outside", x.lays(0, 0, 2, 1), OTHER);
        Due.is("of another sort, outside", x.lays(0, 0, -1, 1), OTHER);
        Due.is("missing, outside", x.lays(1, 0, 40, 1), NOTHING);
        Due.is("missing, outside", x.lays(1, 0, -1, 1), NOTHING);
    }

    private static void laysFromOutside() {
        Due.by("promise 30: -12: from one that there is not");
        PlateRound x = ofInts(1, 2);
        for (int from : new int[] {-1, 2, 39, 40, MIN, MAX}) {
            Due.is("lays(0, 2, " + from + ", 1)", x.lays(0, 2, from, 1), OUTSIDE);
            Due.is("lays(0, 2, " + from + ", 24)", x.lays(0, 2, from, 24), OUTSIDE);
        }
        Due.is("no tick", x.count(4), 0);
        Due.is("no plate", x.count(1), 0);
        Due.is("from the last one", x.lays(0, 2, 1, 1), 1);
    }

    private static void laysBehindTheLast() {
        Due.by("promise 30: -12: one behind the last");
        PlateRound x = ofInts(1, 2, 3);
        Due.is("up to the last", x.lays(0, 2, 1, 2), 2);
        Due.is("one behind it", x.lays(0, 2, 1, 3), OUTSIDE);
        PlateRound y = new PlateRound(0);
        y.sheet(0, 0, 40);
        Due.is("up to the fortieth", y.lays(0, 0, 39, 1), 1);
        Due.is("one behind it", y.lays(0, 0, 39, 2), OUTSIDE);
    }

    private static void laysWhatStoodAhead() {
        Due.by("promise 30: -12: what stood ahead was done");
        PlateRound x = ofInts(4, 5, 3);
        Due.is("two, and one that there is not", x.lays(0, 2, 1, 3), OUTSIDE);
        Due.is("two ticks", x.count(4), 2);
        Due.is("two plates", x.count(1), 2);
        Due.is("dish 5", x.plate(0, 0), 5);
        Due.is("dish 3", x.plate(1, 0), 3);
        Due.is("at(2)", x.at(2), 0);
        Due.is("at(1)", x.at(1), 1);
        Due.is("at(0)", x.at(0), NONE);
    }

    private static void laysNoDish() {
        Due.by("promise 30: (what lay() refuses is left out, its TICK goes by): BAD");
        PlateRound x = ofInts(-1, 6, MIN, MAX, 5);
        Due.is("one of five", x.lays(0, 2, 0, 5), 1);
        Due.is("ticks", x.count(4), 5);
        Due.is("plates", x.count(1), 1);
        Due.is("the last", x.at(1), 0);
    }

    private static void laysWhereThereIsOne() {
        Due.by("promise 30: (what lay() refuses is left out, its TICK goes by): STATE");
        PlateRound x = ofInts(1, 2);
        x.lay(3);
        Due.is("one of two", x.lays(0, 2, 0, 2), 1);
        Due.is("ticks", x.count(4), 2);
        Due.is("the second", x.plate(1, 0), 2);
        Due.is("its place", x.at(1), 1);
    }

    private static void laysBeyond300() {
        Due.by("promise 30: (what lay() refuses is left out, its TICK goes by): FULL");
        PlateRound x = ofInts(new int[24]);
        x.dish(0, 0, 1);
        for (int i = 0; i < 12; i++) {
            x.lays(0, 2, 0, 24);
        }
        Due.is("plates", x.count(1), 288);
        Due.is("the last twelve", x.lays(0, 2, 0, 24), 12);
        Due.is("ticks", x.count(4), 312);
        Due.is("none", x.lays(0, 2, 0, 24), 0);
        Due.is("ticks", x.count(4), 336);
    }

    private static void laysATickBehindEach() {
        Due.by("promise 30: a TICK behind each");
        PlateRound x = ofInts(1, 2);
        x.seat(1);
        x.guest(0, 0, 0);
        Due.rule(x, "take 1; go 0;");
        Due.is("two are laid", x.lays(0, 2, 0, 2), 2);
        Due.is("both are eaten", x.seatTold(0, 2), 2);
        Due.is("the second in the latest tick", x.putBack(0), 1);
    }
}
