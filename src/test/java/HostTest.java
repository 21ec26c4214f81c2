/** Promises 28 to 30: sheets and laying by them. */
public final class HostTest {
    public static void main(String[] args) {
        constants();
        sheets();
        cells();
        lowestBits();
        laying();
        layingRefused();
        orderOfRefusals();
        outside();
        Due.end();
    }

    private static void constants() {
        Due.is("NONE", PlateRound.NONE, -1);
        Due.is("BAD", PlateRound.BAD, -2);
        Due.is("STATE", PlateRound.STATE, -3);
        Due.is("FULL", PlateRound.FULL, -4);
        Due.is("NO", PlateRound.NO, -4611686018427387904L);
    }

    private static void sheets() {
        PlateRound x = new PlateRound(0);
        for (int sheet = 0; sheet < 4; sheet++) {
            Due.is("missing at first", x.cell(sheet, 0, 0), -11);
            Due.is("missing at first", x.lays(sheet, 0, 0, 1), -11);
        }
        int[][] bad = {{-1, 0, 1}, {4, 0, 1}, {0, -2, 1}, {0, 3, 1}, {0, 0, 41}, {0, 3, -1}, {4, 0, -1}, {4, -1, 0}};
        for (int[] b : bad) {
            Due.is("bad sheet", x.sheet(b[0], b[1], b[2]), PlateRound.BAD);
        }
        Due.is("a size below 0", x.sheet(0, 0, -1), -14);
        Due.is("a size below 0", x.sheet(0, 2, Integer.MIN_VALUE), -14);
        Due.is("still missing", x.cell(0, 0, 0), -11);
        Due.is("a sheet of 40", x.sheet(0, 0, 40), 1);
        Due.is("its last item", x.cell(0, 39, 5), 1);
        Due.is("behind it", x.cell(0, 40, 5), -12);
        Due.is("a refused one stays", x.sheet(0, 1, 41), PlateRound.BAD);
        Due.is("a refused one stays", x.sheet(0, 1, -5), -14);
        Due.is("its last item", x.cell(0, 39, 5), 1);
        Due.is("a sheet of none", x.sheet(0, 1, 0), 1);
        Due.is("no item", x.cell(0, 0, 5), -12);
        Due.is("n does not matter", x.sheet(0, -1, 41), 1);
        Due.is("missing", x.cell(0, 0, 5), -11);
        Due.is("n does not matter", x.sheet(0, -1, -9), 1);
        Due.is("missing", x.lays(0, 1, 0, 0), -11);
    }

    private static void cells() {
        PlateRound x = new PlateRound(6);
        x.sheet(1, 2, 3);
        Due.is("cell(-1)", x.cell(-1, 0, 0), PlateRound.BAD);
        Due.is("cell(4)", x.cell(4, 0, 0), PlateRound.BAD);
        Due.is("item -1", x.cell(1, -1, 0), -12);
        Due.is("item 3", x.cell(1, 3, 0), -12);
        Due.is("item max", x.cell(1, Integer.MAX_VALUE, 0), -12);
        Due.is("item 2", x.cell(1, 2, 4), 1);
        Due.is("item 0", x.cell(1, 0, 3), 1);
        x.sheet(2, 2, 3);
        x.cell(2, 0, 5);
        Due.is("lays", x.lays(1, 2, 0, 3), 3);
        Due.is("3 first", x.plate(0, 0), 3);
        Due.is("0 as it was made", x.plate(1, 0), 0);
        Due.is("4 last", x.plate(2, 0), 4);
        x.sheet(1, 2, 3);
        Due.is("anew", x.lays(1, 2, 0, 3), 3);
        for (int plate = 3; plate < 6; plate++) {
            Due.is("all 0", x.plate(plate, 0), 0);
        }
        Due.is("another sheet", x.lays(2, 2, 0, 1), 1);
        Due.is("another sheet", x.plate(6, 0), 5);
    }

    private static void lowestBits() {
        int[] values = {256 + 1, 65536 + 2, 3, -256 + 4, -65536 + 5, 65536 + 256, 255, -1, 65535};
        int[][] laid = {{1, 2, 3, 4, 5, 0, -1, -1, -1}, {-1, 2, 3, -1, 5, -1, -1, -1, -1}, {-1, -1, 3, -1, -1, -1, -1, -1, -1}};
        for (int sort = 0; sort < 3; sort++) {
            PlateRound x = new PlateRound(6);
            x.sheet(3, sort, values.length);
            int next = 0;
            for (int i = 0; i < values.length; i++) {
                Due.is("cell", x.cell(3, i, values[i]), 1);
                int dish = laid[sort][i];
                Due.is("sort " + sort + " of " + values[i], x.lays(3, sort, i, 1), dish < 0 ? 0 : 1);
                if (dish >= 0) {
                    Due.is("dish of " + values[i], x.plate(next, 0), dish);
                    next++;
                }
            }
        }
    }

    private static void laying() {
        PlateRound x = new PlateRound(0);
        x.sheet(0, 1, 24);
        for (int i = 0; i < 24; i++) {
            x.cell(0, i, i % 7);
        }
        Due.is("lays none", x.lays(0, 1, 3, 0), 0);
        Due.is("no tick", x.count(4), 0);
        Due.is("lays from 4 on", x.lays(0, 1, 4, 4), 3);
        Due.is("ticks", x.count(4), 4);
        Due.is("dish 4 first", x.plate(0, 0), 4);
        Due.is("dish 5", x.plate(1, 0), 5);
        Due.is("6 is left out, its tick goes by", x.at(2), -1);
        Due.is("dish 0", x.plate(2, 0), 0);
        Due.is("a tick behind each", x.at(1), 2);
        Due.is("a tick behind each", x.at(4), 0);
        Due.is("lays where the hatch is free", x.lays(0, 1, 0, 24), 5);
        Due.is("ticks", x.count(4), 28);
        Due.is("plates", x.count(1), 8);
        x.seat(1);
        x.guest(0, 0, 9);
        x.lay(0);
        x.lays(0, 1, 0, 1);
        Due.is("a guest is served", x.seatTold(0, 2), 1);
    }

    private static void layingRefused() {
        PlateRound x = new PlateRound(0);
        x.sheet(0, 0, 10);
        int[][] bad = {{-1, 0, 0, 1}, {4, 0, 0, 1}, {0, -1, 0, 1}, {0, 3, 0, 1}, {0, 0, 0, -1}, {0, 0, 0, 25}, {1, 3, 0, 1}, {1, 0, 0, 25}};
        for (int[] b : bad) {
            Due.is("bad lays", x.lays(b[0], b[1], b[2], b[3]), PlateRound.BAD);
        }
        for (int is = 0; is < 3; is++) {
            x.sheet(2, is, 2);
            for (int sort = 0; sort < 3; sort++) {
                Due.is(is + " taken for " + sort, x.lays(2, sort, 0, 0), is == sort ? 0 : -13);
            }
        }
        Due.is("no plate", x.count(1), 0);
        Due.is("no tick", x.count(4), 0);
    }

    private static void orderOfRefusals() {
        PlateRound x = new PlateRound(0);
        x.sheet(0, 0, 2);
        Due.is("-13 is ahead of -12", x.lays(0, 1, 9, 1), -13);
        Due.is("-11 is ahead of -12", x.lays(1, 1, 9, 1), -11);
        Due.is("BAD is ahead of -13", x.lays(0, 1, 0, 25), PlateRound.BAD);
        Due.is("BAD is ahead of -12", x.lays(0, 0, 9, 25), PlateRound.BAD);
        Due.is("BAD is ahead of -14", x.sheet(9, 0, -1), PlateRound.BAD);
        Due.is("BAD is ahead of -11", x.cell(9, 0, 0), PlateRound.BAD);
        Due.is("-11 is ahead of -12", x.cell(1, -1, 0), -11);
    }

    private static void outside() {
        PlateRound x = new PlateRound(0);
        x.sheet(0, 2, 3);
        Due.is("below", x.lays(0, 2, -1, 3), -12);
        Due.is("nothing was done", x.count(4), 0);
        Due.is("behind", x.lays(0, 2, 3, 1), -12);
        Due.is("far behind", x.lays(0, 2, Integer.MAX_VALUE, 3), -12);
        Due.is("far below", x.lays(0, 2, Integer.MIN_VALUE, 3), -12);
        Due.is("nothing was done", x.count(1), 0);
        Due.is("two, and then none", x.lays(0, 2, 1, 24), -12);
        Due.is("what stood ahead was done", x.count(1), 2);
        Due.is("what stood ahead was done", x.count(4), 2);
        Due.is("all", x.lays(0, 2, 0, 3), 3);
        x.sheet(1, 0, 0);
        Due.is("of none", x.lays(1, 0, 0, 1), -12);
        Due.is("none of none", x.lays(1, 0, 0, 0), 0);
    }
}
