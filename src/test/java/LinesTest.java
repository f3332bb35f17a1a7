import java.util.Random;

/** Promises 23 to 25: line, lines, over. */
public final class LinesTest {
    public static void main(String[] args) {
        bounds();
        fromASheet();
        linesFromASheetUpToTheFirstWrong();
        overEdges();
        overAgainstAllRows();
        Due.end();
    }

    private static void bounds() {
        GorgeWire x = new GorgeWire();
        int[][] wrong = {{0, 1}, {10000, 1}, {1, 0}, {1, 1000}, {-1, 1}, {1, -1},
            {Integer.MIN_VALUE, 1}, {1, Integer.MAX_VALUE}};
        for (int[] w : wrong) {
            Due.is("line(" + w[0] + ", " + w[1] + ")", x.line(w[0], w[1]), Due.BEYOND);
        }
        Due.is("line(9999, 999)", x.line(9999, 999), 0);
        for (int i = 1; i < 8; i++) {
            Due.is("line(1, 1)", x.line(1, 1), i);
        }
        Due.is("a ninth", x.line(1, 1), Due.FULL);
        Due.is("a ninth that is beyond", x.line(0, 1), Due.BEYOND);
        Due.is("count(3)", x.count(3), 8);
        Due.is("told(4)", x.told(4), 1);
    }

    private static void fromASheet() {
        GorgeWire x = new GorgeWire();
        for (int sheet : new int[] {-1, 4, Integer.MIN_VALUE, Integer.MAX_VALUE}) {
            Due.is("lines(" + sheet + ")", x.lines(sheet), Due.BEYOND);
        }
        Due.is("lines of a missing one", x.lines(3), Due.NONE);
        x.sheet(3, 32, 0);
        Due.is("lines of an empty one", x.lines(3), 0);
        x.sheet(3, 32, 1);
        x.put(3, 0, 5);
        Due.is("not whole", x.lines(3), 0);
        x.sheet(3, 32, 40);
        for (int i = 0; i < 40; i++) {
            x.put(3, i, i % 2 == 0 ? 9999 : 999);
        }
        x.line(1, 1);
        Due.is("as many as have room", x.lines(3), 7);
        Due.is("count(3)", x.count(3), 8);
        Due.is("no room", x.lines(3), 0);
        Due.is("no room is no ERROR", x.told(4), 0);
    }

    private static void linesFromASheetUpToTheFirstWrong() {
        int[][] wrong = {{0, 1}, {10000, 1}, {1, 0}, {1, 1000}, {-1, 1}, {1, -1}};
        for (int[] w : wrong) {
            GorgeWire x = new GorgeWire();
            x.sheet(0, 32, 8);
            int[] numbers = {20, 3, 30, 4, w[0], w[1], 5, 5};
            for (int i = 0; i < 8; i++) {
                x.put(0, i, numbers[i]);
            }
            Due.is("up to the first wrong one", x.lines(0), 2);
            Due.is("count(3)", x.count(3), 2);
        }
        GorgeWire x = new GorgeWire();
        x.sheet(1, 8, 5);
        int[] numbers = {127, 1, 40, 2, 50};
        for (int i = 0; i < 5; i++) {
            x.put(1, i, numbers[i]);
        }
        Due.is("up to the one that isn't whole", x.lines(1), 2);
        // THICK 2 of SPAN 300 is 60: LINE 0 of STRONG 127 pulls it, LINE 1 of STRONG 40 could not.
        Due.is("STRONG ahead of THICK", x.over(1, -1), 2);
        x.put(1, 0, 200);
        Due.is("8 bits with a sign: 200 is below 0", x.lines(1), 0);
    }

    private static void overEdges() {
        GorgeWire x = new GorgeWire();
        Due.is("no LINES", x.over(0, 0), Due.BEYOND);
        x.wire(0, 25);
        x.line(2, 999);
        x.line(9, 1);
        x.line(1, 5);
        x.line(1, 4);
        Due.is("1 * 25 / 10 is 2, cut", x.over(1, -1), 2);
        Due.is("over(2, -1): 12 of 9", x.over(2, -1), Due.NONE);
        Due.is("over(2, 0)", x.over(2, 0), Due.NONE);
        Due.is("over(2, -2)", x.over(2, -2), Due.BEYOND);
        Due.is("over(3, -1): 10 of 9", x.over(3, -1), Due.NONE);
        x.wire(0, 24);
        Due.is("over(3, -1): 9 of 9", x.over(3, -1), 3);
        Due.is("LINE 0 needs none", x.over(0, -1), 1);
        Due.is("its ROW", x.over(0, 0), 0);
        Due.is("its ROW ends", x.over(0, 1), Due.NONE);
        Due.is("over(0, MAX)", x.over(0, Integer.MAX_VALUE), Due.NONE);
        Due.is("over(0, MIN)", x.over(0, Integer.MIN_VALUE), Due.BEYOND);
        Due.is("over(4, 0)", x.over(4, 0), Due.BEYOND);
        Due.is("over(-1, 0)", x.over(-1, 0), Due.BEYOND);
        Due.is("over(MAX, 0)", x.over(Integer.MAX_VALUE, 0), Due.BEYOND);
    }

    /** All rows from LINE 0 on, by numbers: the first of the shortest ones that end with a LINE. */
    private static final class Rows {
        final int[] strong;
        final int[] thick;
        final int span;
        int[] best = null;

        Rows(int[] strong, int[] thick, int span) {
            this.strong = strong;
            this.thick = thick;
            this.span = span;
        }

        void search(int[] row, int last) {
            int at = row[row.length - 1];
            if (at == last) {
                best = best == null || row.length < best.length ? row : best;
                return;
            }
            for (int next = 0; next < strong.length; next++) {
                boolean used = false;
                for (int line : row) {
                    used |= line == next;
                }
                if (!used && thick[next] * span / 10 <= strong[at]) {
                    int[] longer = java.util.Arrays.copyOf(row, row.length + 1);
                    longer[row.length] = next;
                    search(longer, last);
                }
            }
        }
    }

    private static void overAgainstAllRows() {
        Random random = new Random(17);
        int longest = 0;
        for (int round = 0; round < 250; round++) {
            GorgeWire x = new GorgeWire();
            int span = 20 + random.nextInt(60);
            x.wire(0, span);
            int lines = 1 + random.nextInt(8);
            int[] strong = new int[lines];
            int[] thick = new int[lines];
            for (int i = 0; i < lines; i++) {
                thick[i] = 1 + random.nextInt(60);
                strong[i] = Math.max(1, thick[i] * span / 10 + random.nextInt(81) - 20);
                x.line(strong[i], thick[i]);
            }
            for (int last = 0; last < lines; last++) {
                Rows rows = new Rows(strong, thick, span);
                rows.search(new int[] {0}, last);
                int length = rows.best == null ? 0 : rows.best.length;
                longest = Math.max(longest, length);
                Due.is("over(" + last + ", -1)", x.over(last, -1), length == 0 ? Due.NONE : length);
                for (int i = 0; i <= length; i++) {
                    Due.is("over(" + last + ", " + i + ")", x.over(last, i), i < length ? rows.best[i] : Due.NONE);
                }
            }
        }
        Due.is("some rows are long", longest >= 4 ? 1 : 0, 1);
    }
}
