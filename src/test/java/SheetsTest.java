import java.util.Random;

/** Promises 33 to 35: sheet, put, move. */
public final class SheetsTest {
    public static void main(String[] args) {
        sheets();
        puts();
        moveErrors();
        moves();
        Due.end();
    }

    private static void sheets() {
        GorgeWire x = new GorgeWire();
        for (int sheet : new int[] {-1, 4, Integer.MIN_VALUE, Integer.MAX_VALUE}) {
            Due.is("sheet(" + sheet + ", 8, 1)", x.sheet(sheet, 8, 1), Due.BEYOND);
            Due.is("sheet(" + sheet + ", 8, -1)", x.sheet(sheet, 8, -1), Due.BEYOND);
            Due.is("sheet(" + sheet + ", 0, 0)", x.sheet(sheet, 0, 0), Due.BEYOND);
        }
        for (int bits : new int[] {-1, 1, 7, 9, 24, 64, -8, Integer.MIN_VALUE, Integer.MAX_VALUE}) {
            Due.is("sheet(0, " + bits + ", 1)", x.sheet(0, bits, 1), Due.BEYOND);
            Due.is("sheet(0, " + bits + ", -1)", x.sheet(0, bits, -1), Due.BEYOND);
        }
        for (int bits : new int[] {8, 16, 32}) {
            Due.is("sheet(0, " + bits + ", -1)", x.sheet(0, bits, -1), Due.STATE);
            Due.is("sheet(0, " + bits + ", MIN)", x.sheet(0, bits, Integer.MIN_VALUE), Due.STATE);
            Due.is("sheet(0, " + bits + ", 41)", x.sheet(0, bits, 41), Due.BEYOND);
            Due.is("sheet(0, " + bits + ", MAX)", x.sheet(0, bits, Integer.MAX_VALUE), Due.BEYOND);
        }
        Due.is("still missing", x.put(0, 0, 0), Due.NONE);
        Due.is("sheet(3, 8, 40)", x.sheet(3, 8, 40), 1);
        Due.is("put(3, 39, 1)", x.put(3, 39, 1), 1);
        Due.is("an ERROR changes nothing", x.sheet(3, 8, 41), Due.BEYOND);
        Due.is("an ERROR changes nothing", x.sheet(3, 16, -1), Due.STATE);
        Due.is("put(3, 39, 1)", x.put(3, 39, 1), 1);
        Due.is("sheet(3, 0, -9)", x.sheet(3, 0, -9), 1);
        Due.is("it is missing", x.put(3, 0, 1), Due.NONE);
        Due.is("sheet(3, 0, 999)", x.sheet(3, 0, 999), 1);
        Due.is("sheet(3, 16, 0)", x.sheet(3, 16, 0), 1);
        Due.is("it has no numbers", x.put(3, 0, 1), Due.BEYOND);
        // What is there is told by LINES: a SHEET made anew is all 0, so none come.
        x.sheet(2, 32, 4);
        x.put(2, 0, 5);
        x.put(2, 1, 5);
        Due.is("one LINE", x.lines(2), 1);
        x.sheet(2, 32, 4);
        x.put(2, 1, 5);
        Due.is("all 0 again", x.lines(2), 0);
        x.sheet(2, 32, 4);
        x.put(2, 0, 5);
        Due.is("all 0 again", x.lines(2), 0);
    }

    private static void puts() {
        GorgeWire x = new GorgeWire();
        Due.is("put(4, 0, 0)", x.put(4, 0, 0), Due.BEYOND);
        Due.is("put(-1, 0, 0)", x.put(-1, 0, 0), Due.BEYOND);
        Due.is("put(1, 99, 0)", x.put(1, 99, 0), Due.NONE);
        x.sheet(1, 8, 2);
        for (int i : new int[] {-1, 2, Integer.MIN_VALUE, Integer.MAX_VALUE}) {
            Due.is("put(1, " + i + ", 0)", x.put(1, i, 0), Due.BEYOND);
        }
        int[][] lines = {{8, 256 + 5, 1}, {8, 128, 0}, {8, 127, 1}, {8, -1, 0}, {8, -251, 1},
            {16, 65536 + 5, 1}, {16, 32767, 0}, {16, 32768 + 5, 0}, {16, 9999, 1}, {16, -65531, 1},
            {32, 65536 + 5, 0}, {32, 9999, 1}, {32, Integer.MIN_VALUE, 0}};
        for (int[] l : lines) {
            GorgeWire y = new GorgeWire();
            y.sheet(0, l[0], 2);
            y.put(0, 0, l[1]);
            y.put(0, 1, 1);
            Due.is("a LINE of " + l[1] + " in " + l[0] + " bits", y.lines(0), l[2]);
        }
    }

    private static void moveErrors() {
        GorgeWire x = new GorgeWire();
        x.sheet(0, 8, 5);
        x.sheet(1, 16, 5);
        x.sheet(2, 8, 3);
        Due.is("no such SHEET", x.move(4, 0, 0, 0, 0), Due.BEYOND);
        Due.is("no such SHEET", x.move(0, 0, -1, 0, 0), Due.BEYOND);
        Due.is("no such SHEET ahead of a missing one", x.move(3, 0, 4, 0, 0), Due.BEYOND);
        Due.is("one is missing", x.move(3, 0, 0, 0, 0), Due.NONE);
        Due.is("one is missing", x.move(0, 0, 3, 0, -1), Due.NONE);
        Due.is("unlike bits", x.move(0, 0, 1, 0, 1), Due.KIND);
        Due.is("unlike bits ahead of n", x.move(0, 0, 1, 0, -1), Due.KIND);
        int[][] wrong = {{0, 0, -1}, {-1, 0, 0}, {0, -1, 0}, {0, 0, 4}, {5, 0, 1}, {0, 3, 1}, {6, 0, 0}, {0, 4, 0},
            {3, 0, 3}, {0, 1, 3}, {Integer.MAX_VALUE, 0, 1}, {0, Integer.MAX_VALUE, 1}, {1, 1, Integer.MAX_VALUE},
            {Integer.MIN_VALUE, 0, 0}, {0, 0, Integer.MIN_VALUE}};
        for (int[] w : wrong) {
            Due.is("move(0, " + w[0] + ", 2, " + w[1] + ", " + w[2] + ")", x.move(0, w[0], 2, w[1], w[2]), Due.BEYOND);
        }
        Due.is("none from the end to the end", x.move(0, 5, 2, 3, 0), 0);
        Due.is("all that fit", x.move(0, 2, 2, 0, 3), 3);
        Due.is("to itself", x.move(2, 0, 2, 0, 3), 3);
    }

    /** Numbers move as in rows of the test's own; LINES tell what came of them. */
    private static void moves() {
        Random random = new Random(29);
        for (int round = 0; round < 300; round++) {
            GorgeWire x = new GorgeWire();
            int[][] rows = new int[2][16];
            for (int sheet = 0; sheet < 2; sheet++) {
                x.sheet(sheet, 32, 16);
                for (int i = 0; i < 16; i++) {
                    rows[sheet][i] = 1 + random.nextInt(900);
                    x.put(sheet, i, rows[sheet][i]);
                }
            }
            for (int k = 0; k < 6; k++) {
                int sheet = random.nextInt(2);
                int other = random.nextInt(2);
                int n = random.nextInt(17);
                int i = random.nextInt(17 - n);
                int j = random.nextInt(17 - n);
                Due.is("move", x.move(sheet, i, other, j, n), n);
                int[] were = rows[sheet].clone();
                for (int p = 0; p < n; p++) {
                    rows[other][j + p] = were[i + p];
                }
            }
            for (int sheet = 0; sheet < 2; sheet++) {
                compareByLines(x, sheet, rows[sheet]);
            }
        }
    }

    /** The SHEET's numbers as STRONG and THICK make LINES that stand as ones told by line() do. */
    private static void compareByLines(GorgeWire x, int sheet, int[] row) {
        x.image();
        Due.is("lines", x.lines(sheet), 8);
        GorgeWire y = new GorgeWire();
        for (int i = 0; i < 16; i += 2) {
            y.line(row[i], row[i + 1]);
        }
        for (int span = 20; span <= 400; span += 95) {
            x.wire(0, span);
            y.wire(0, span);
            for (int line = 0; line < 8; line++) {
                Due.is("over(" + line + ", 1)", x.over(line, 1), y.over(line, 1));
            }
        }
        x.restore();
    }
}
