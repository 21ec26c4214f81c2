/** Promises 25 and 26: what pieces bring, and the cut that brings most. */
public final class FishTest {
    public static void main(String[] args) {
        pieces();
        refused();
        nothingBrought();
        halves();
        leastFirst();
        againstAllRows();
        Due.end();
    }

    private static void pieces() {
        PlateRound x = new PlateRound(0);
        Due.is("piece(0, 1)", x.piece(0, 1), PlateRound.BAD);
        Due.is("piece(7, 1)", x.piece(7, 1), PlateRound.BAD);
        Due.is("piece(-1, 1)", x.piece(-1, 1), PlateRound.BAD);
        for (int length = 1; length <= 6; length++) {
            Due.is("piece below", x.piece(length, -1), PlateRound.BAD);
            Due.is("piece above", x.piece(length, 1000), PlateRound.BAD);
            Due.is("piece", x.piece(length, 999), 0);
            Due.is("piece", x.piece(length, length), 999);
        }
        for (int length = 1; length <= 6; length++) {
            Due.is("piece stands", x.piece(length, 0), length);
        }
    }

    private static void refused() {
        PlateRound x = new PlateRound(0);
        int[] bad = {0, 31, -1, Integer.MIN_VALUE, Integer.MAX_VALUE};
        for (int length : bad) {
            Due.is("cut(" + length + ", -1)", x.cut(length, -1), PlateRound.BAD);
            Due.is("cut(" + length + ", 0)", x.cut(length, 0), PlateRound.BAD);
        }
        Due.is("cut(3, -2)", x.cut(3, -2), PlateRound.NONE);
        Due.is("cut(3, 3)", x.cut(3, 3), PlateRound.NONE);
        Due.is("cut(3, 2)", x.cut(3, 2), 1);
        Due.is("cut(30, 30)", x.cut(30, 30), PlateRound.NONE);
        Due.is("cut(30, max)", x.cut(30, Integer.MAX_VALUE), PlateRound.NONE);
    }

    private static void nothingBrought() {
        PlateRound x = new PlateRound(0);
        Due.is("it brings nothing", x.cut(30, -1), 0);
        for (int i = 0; i < 30; i++) {
            Due.is("all ones", x.cut(30, i), 1);
        }
    }

    private static void halves() {
        PlateRound x = new PlateRound(0);
        x.piece(1, 7);
        Due.is("one piece, half of it once, cut", x.cut(1, -1), 3);
        Due.is("two ends", x.cut(2, -1), 6);
        Due.is("two ends and a middle", x.cut(3, -1), 13);
        x.piece(2, 13);
        Due.is("like two ends", x.cut(2, -1), 6);
        Due.is("the lesser first", x.cut(2, 0), 1);
        x.piece(2, 14);
        Due.is("one piece", x.cut(2, -1), 7);
        Due.is("one piece", x.cut(2, 0), 2);
        Due.is("no more", x.cut(2, 1), PlateRound.NONE);
        x.piece(6, 999);
        Due.is("ends are cheap", x.cut(8, -1), 1005);
        Due.is("the first", x.cut(8, 0), 1);
        Due.is("the middle", x.cut(8, 1), 6);
        Due.is("the last", x.cut(8, 2), 1);
        Due.is("no more", x.cut(8, 3), PlateRound.NONE);
        Due.is("all", x.cut(30, -1), 4 * 999 + 3 + 3 + 7 * 4);
    }

    private static void leastFirst() {
        PlateRound x = new PlateRound(0);
        x.piece(2, 100);
        x.piece(3, 150);
        Due.is("cut(6)", x.cut(6, -1), 200);
        int[] six = {1, 2, 2, 1, -1};
        for (int i = 0; i < six.length; i++) {
            Due.is("cut(6, " + i + ")", x.cut(6, i), six[i]);
        }
        Due.is("cut(8)", x.cut(8, -1), 300);
        int[] eight = {1, 2, 2, 2, 1, -1};
        for (int i = 0; i < eight.length; i++) {
            Due.is("cut(8, " + i + ")", x.cut(8, i), eight[i]);
        }
        x.piece(1, 1);
        Due.is("a half of 1 is 0", x.cut(8, -1), 300);
        x.piece(1, 2);
        Due.is("a half of 2 is 1", x.cut(8, -1), 302);
    }

    // Every row of every length up to 12, for many tables of what pieces bring.
    private static void againstAllRows() {
        int seed = 1;
        for (int table = 0; table < 40; table++) {
            PlateRound x = new PlateRound(0);
            int[] worths = new int[7];
            for (int length = 1; length <= 6; length++) {
                seed = seed * 1103515245 + 12345;
                int worth = (seed >>> 8) % (table % 2 == 0 ? 6 : 999);
                worths[length] = table % 4 < 2 ? worth : Math.min(999, worth * length);
                x.piece(length, worths[length]);
            }
            for (int length = 1; length <= 12; length++) {
                int[] row = new int[length];
                int[] best = new int[length + 1];
                best[0] = -1;
                allRows(worths, length, row, 0, best);
                Due.is("table " + table + ": cut(" + length + ", -1)", x.cut(length, -1), best[0]);
                for (int i = 0; i < length; i++) {
                    Due.is("table " + table + ": cut(" + length + ", " + i + ")", x.cut(length, i),
                        best[i + 1] == 0 ? PlateRound.NONE : best[i + 1]);
                }
            }
        }
    }

    private static void allRows(int[] worths, int left, int[] row, int size, int[] best) {
        if (left == 0) {
            int sum = 0;
            for (int i = 0; i < size; i++) {
                sum += i == 0 || i == size - 1 ? worths[row[i]] / 2 : worths[row[i]];
            }
            if (sum > best[0]) {
                java.util.Arrays.fill(best, 0);
                best[0] = sum;
                System.arraycopy(row, 0, best, 1, size);
            }
            return;
        }
        for (int piece = 1; piece <= 6 && piece <= left; piece++) {
            row[size] = piece;
            allRows(worths, left - piece, row, size + 1, best);
        }
    }
}
