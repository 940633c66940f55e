/** Promises 28 to 32: sheets. */
final class SheetsTest {
    private SheetsTest() {
    }

    public static void main(String[] args) {
        makes();
        puts();
        moves();
        movesOntoItself();
        refusesMoves();
        givesAcres();
        judges();
        Checks.end("SheetsTest");
    }

    private static void makes() {
        FieldsTold x = new FieldsTold();
        for (int bits : new int[] {8, 16, 32}) {
            Checks.same("sheet", x.sheet(3, bits, 40), 1);
            Checks.same("its last", x.put(3, 39, 1), 1);
            Checks.same("behind its last", x.put(3, 40, 1), Checks.BEYOND);
            Checks.same("sheet", x.sheet(3, bits, 0), 1);
            Checks.same("none in it", x.put(3, 0, 1), Checks.BEYOND);
            Checks.same("below 0", x.sheet(3, bits, -1), Checks.STATE);
            Checks.same("below 0", x.sheet(3, bits, Integer.MIN_VALUE), Checks.STATE);
            Checks.same("above 40", x.sheet(3, bits, 41), Checks.BEYOND);
            Checks.same("above 40", x.sheet(3, bits, Integer.MAX_VALUE), Checks.BEYOND);
        }
        for (int wild : new int[] {-1, 4, Integer.MIN_VALUE, Integer.MAX_VALUE}) {
            Checks.same("sheet(" + wild + ", 8, 1)", x.sheet(wild, 8, 1), Checks.BEYOND);
            Checks.same("sheet(" + wild + ", 8, -1)", x.sheet(wild, 8, -1), Checks.BEYOND);
        }
        for (int wild : new int[] {-8, 1, 7, 9, 24, 64, Integer.MIN_VALUE, Integer.MAX_VALUE}) {
            Checks.same("sheet(0, " + wild + ", 1)", x.sheet(0, wild, 1), Checks.BEYOND);
            Checks.same("sheet(0, " + wild + ", -1)", x.sheet(0, wild, -1), Checks.BEYOND);
        }
        Checks.same("it is missing", x.sheet(3, 0, -7), 1);
        Checks.same("it is missing", x.sheet(3, 0, 99), 1);
        Checks.same("it is missing", x.judge(3), Checks.NONE);
        Checks.same("sheet", x.sheet(2, 8, 2), 1);
        x.put(2, 0, 5);
        Checks.same("sheet anew", x.sheet(2, 8, 2), 1);
        x.field(0, 1);
        Checks.same("all 0", x.acres(2), 0);
        Checks.same("an error leaves it", x.sheet(2, 8, 41), Checks.BEYOND);
        Checks.same("an error leaves it", x.put(2, 1, 3), 1);
    }

    // Numbers show in judge: the field 0 of nobody is -1, and an acre is what acres takes.
    private static void puts() {
        FieldsTold x = new FieldsTold();
        x.field(0, 1);
        int[][] rows = {{8, 255, -1}, {8, -1, -1}, {8, 511, -1}, {16, 65535, -1}, {16, 255, 0}, {32, 65535, 0}, {32, -1, -1}};
        for (int[] row : rows) {
            x.sheet(0, row[0], 1);
            Checks.same("put", x.put(0, 0, row[1]), 1);
            Checks.same(row[1] + " by " + row[0] + " bits", x.judge(0), row[2]);
        }
        int[][] acres = {{8, 256 + 77, 77}, {16, 65536 * 3 + 77, 77}, {32, 77, 77}, {8, -179, 77}};
        for (int[] row : acres) {
            x.set(0, 0, 1);
            x.sheet(0, row[0], 1);
            x.put(0, 0, row[1]);
            Checks.same(row[1] + " by " + row[0] + " bits", x.acres(0), 1);
            Checks.same(row[1] + " by " + row[0] + " bits", x.ofField(0, 2), row[2]);
        }
        for (int wild : new int[] {-1, 4, Integer.MIN_VALUE, Integer.MAX_VALUE}) {
            Checks.same("put(" + wild + ", 0, 0)", x.put(wild, 0, 0), Checks.BEYOND);
            Checks.same("put(0, " + wild + ", 0)", x.put(0, wild, 0), Checks.BEYOND);
        }
        Checks.same("put(0, 1, 0)", x.put(0, 1, 0), Checks.BEYOND);
        Checks.same("missing ahead of its number", x.put(1, -1, 0), Checks.NONE);
        Checks.same("no such ahead of missing", x.put(5, -1, 0), Checks.BEYOND);
    }

    private static void holds(FieldsTold x, int sheet, int... numbers) {
        Checks.same("acres of sheet " + sheet, x.acres(sheet), numbers.length);
        for (int i = 0; i < numbers.length; i++) {
            Checks.same("number " + i + " of sheet " + sheet, x.ofField(i, 2), numbers[i]);
        }
    }

    private static FieldsTold fiveFields() {
        FieldsTold x = new FieldsTold();
        for (int i = 0; i < 5; i++) {
            x.field(0, 1);
        }
        return x;
    }

    private static void moves() {
        FieldsTold x = fiveFields();
        Checks.row(x, 0, 16, 11, 12, 13, 14, 15);
        Checks.row(x, 1, 16, 21, 22, 23);
        Checks.same("move", x.move(0, 3, 1, 0, 2), 2);
        holds(x, 1, 14, 15, 23);
        holds(x, 0, 11, 12, 13, 14, 15);
        Checks.same("move", x.move(1, 0, 0, 2, 3), 3);
        holds(x, 0, 11, 12, 14, 15, 23);
        Checks.same("move of none", x.move(0, 5, 1, 3, 0), 0);
        Checks.same("move of none", x.move(0, 0, 1, 0, 0), 0);
        holds(x, 1, 14, 15, 23);
    }

    private static void movesOntoItself() {
        FieldsTold x = fiveFields();
        Checks.row(x, 2, 8, 1, 2, 3, 4, 5);
        Checks.same("move up", x.move(2, 0, 2, 1, 4), 4);
        holds(x, 2, 1, 1, 2, 3, 4);
        Checks.row(x, 2, 8, 1, 2, 3, 4, 5);
        Checks.same("move down", x.move(2, 2, 2, 0, 3), 3);
        holds(x, 2, 3, 4, 5, 4, 5);
        Checks.same("move in place", x.move(2, 0, 2, 0, 5), 5);
        holds(x, 2, 3, 4, 5, 4, 5);
    }

    private static void refusesMoves() {
        FieldsTold x = new FieldsTold();
        Checks.row(x, 0, 8, 1, 2, 3);
        Checks.row(x, 1, 16, 1, 2, 3);
        Checks.row(x, 2, 8, 1, 2);
        int most = Integer.MAX_VALUE;
        for (int wild : new int[] {-1, 4, Integer.MIN_VALUE, most}) {
            Checks.same("no such sheet", x.move(wild, 0, 3, 0, 1), Checks.BEYOND);
            Checks.same("no such sheet", x.move(3, 0, wild, 0, 1), Checks.BEYOND);
        }
        Checks.same("one is missing", x.move(0, -1, 3, 0, -1), Checks.NONE);
        Checks.same("one is missing", x.move(3, -1, 1, 0, -1), Checks.NONE);
        Checks.same("unlike bits", x.move(0, -1, 1, 0, -1), Checks.KIND);
        Checks.same("unlike bits", x.move(1, 0, 2, 0, 1), Checks.KIND);
        int[][] beyond = {
            {-1, 0, 1}, {0, -1, 1}, {0, 0, -1}, {0, 0, 3}, {1, 0, 3}, {2, 0, 2}, {3, 0, 1}, {0, 2, 1}, {0, 1, 2},
            {4, 0, 0}, {0, 3, 0}, {most, 0, most}, {0, most, most}, {most, 0, 1}, {0, 0, most}, {1, 1, Integer.MIN_VALUE},
        };
        for (int[] b : beyond) {
            Checks.same("they don't stand there: " + b[0] + " " + b[1] + " " + b[2],
                    x.move(0, b[0], 2, b[1], b[2]), Checks.BEYOND);
        }
        Checks.same("told(1)", x.told(1), 8 + beyond.length);
    }

    private static void givesAcres() {
        FieldsTold x = fiveFields();
        for (int wild : new int[] {-1, 4, Integer.MIN_VALUE, Integer.MAX_VALUE}) {
            Checks.same("acres(" + wild + ")", x.acres(wild), Checks.BEYOND);
        }
        Checks.same("of a missing one", x.acres(0), Checks.NONE);
        Checks.row(x, 0, 32, 1, 99, 100, 50);
        Checks.same("up to the first beyond", x.acres(0), 2);
        Checks.same("acres", x.ofField(1, 2), 99);
        Checks.same("behind it none", x.ofField(3, 2), 1);
        Checks.row(x, 0, 32, 0, 50);
        Checks.same("none", x.acres(0), 0);
        Checks.row(x, 0, 32, 5, -1, 5);
        Checks.same("one", x.acres(0), 1);
        Checks.row(x, 0, 32, 7, 7, 7, 7, 7, 7, 7);
        Checks.same("as many as fields", x.acres(0), 5);
        Checks.same("a sheet of none", x.sheet(0, 8, 0), 1);
        Checks.same("none", x.acres(0), 0);
        Checks.same("told(1)", x.told(1), 4);
    }

    private static void judges() {
        FieldsTold x = new FieldsTold();
        for (int wild : new int[] {-1, 4, Integer.MIN_VALUE, Integer.MAX_VALUE}) {
            Checks.same("judge(" + wild + ")", x.judge(wild), Checks.BEYOND);
        }
        Checks.same("of a missing one", x.judge(1), Checks.NONE);
        x.sheet(1, 8, 0);
        Checks.same("none of none", x.judge(1), -1);
        x.sheet(1, 8, 1);
        Checks.same("one too many", x.judge(1), 0);
        x.field(0, 1);
        x.field(0, 1);
        x.field(0, 1);
        Checks.tell(x, 2, 1, 3);
        Checks.row(x, 1, 8, -1, 2, -1);
        Checks.same("all", x.judge(1), -1);
        Checks.row(x, 1, 16, -1, 2, 0);
        Checks.same("the last isn't so", x.judge(1), 2);
        Checks.row(x, 1, 16, -1, 1, 0);
        Checks.same("the first that isn't so", x.judge(1), 1);
        Checks.row(x, 1, 32, -1, 2);
        Checks.same("one lacks", x.judge(1), 2);
        Checks.tell(x, 0, 2, 3);
        Checks.same("owner 0's lacks, too", x.judge(1), 2);
        x.forgets(2);
        Checks.row(x, 1, 32, -1, 2, -1, -1);
        Checks.same("one is too many", x.judge(1), 3);
        Checks.tell(x, 0, 0, 1);
        Checks.row(x, 1, 32, -1, 2, -1);
        Checks.same("whose they are, not who is said", x.judge(1), -1);
    }
}
