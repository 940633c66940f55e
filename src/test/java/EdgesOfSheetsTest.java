/** The edges that Terms, 4, and promises 28 to 32 name: sheets, their numbers, moves, acres, judging. */
final class EdgesOfSheetsTest {
    private static final int MOST = Integer.MAX_VALUE;
    private static final int LEAST = Integer.MIN_VALUE;

    private EdgesOfSheetsTest() {
    }

    public static void main(String[] args) {
        sheetsAreMissingAtFirst();
        p28SheetBeyond();
        p28SheetState();
        p28SheetInOrder();
        p28SheetOf0To40();
        p28SheetAnew();
        p28SheetMissing();
        p29PutBeyondAndNone();
        p29PutNoSuchNumber();
        p29PutInOrder();
        p29PutLowestBits();
        p30MoveNoSuchSheet();
        p30MoveMissing();
        p30MoveUnlike();
        p30MoveBelow0();
        p30MoveWhereTheyDontStand();
        p30MoveNone();
        p30MoveAll40();
        p30MoveAsTheyAllWere();
        p30MoveInOrder();
        p31AcresBeyondAndNone();
        p31Acres1To99();
        p31AcresForWhichThereIsAField();
        p32JudgeBeyondAndNone();
        p32JudgeTheFirst();
        p32JudgeOneThatLacksOrIsTooMany();
        p32JudgeNobodys();
        Checks.end("EdgesOfSheetsTest");
    }

    /** Sheets 0 and 1 of 8 bits with 3 and 2 numbers, 2 of 16 bits with 3, 3 missing; a road of three. */
    private static FieldsTold sheets() {
        FieldsTold x = Edges.road(0, 3);
        Checks.row(x, 0, 8, 11, 12, 13);
        Checks.row(x, 1, 8, 21, 22);
        Checks.row(x, 2, 16, 31, 32, 33);
        return x;
    }

    /** Terms, 4: "SHEETS 0 .. 3 .. or missing (as at first)". */
    private static void sheetsAreMissingAtFirst() {
        for (int sheet = 0; sheet < 4; sheet++) {
            int s = sheet;
            Edges.refused("put at first", Edges::tenFields, x -> x.put(s, 0, 1), Checks.NONE);
            Edges.refused("move at first", Edges::tenFields, x -> x.move(s, 0, s, 0, 0), Checks.NONE);
            Edges.refused("acres at first", Edges::tenFields, x -> x.acres(s), Checks.NONE);
            Edges.refused("judge at first", Edges::tenFields, x -> x.judge(s), Checks.NONE);
            Edges.refused("one at first", Edges::tenFields, x -> x.one(s, 0), Checks.NONE);
            Edges.refused("fears at first", Edges::tenFields, x -> x.fears(s, 0), Checks.NONE);
        }
    }

    /** Promise 28: "BEYOND.", of the SHEET, of bits ("8, 16, 32; 0"), of n ("at most 40 numbers"). */
    private static void p28SheetBeyond() {
        Edges.bounds("P28 sheet", Edges::rich, (x, v) -> x.sheet(v, 8, 1), 0, 3);
        Edges.bounds("P28 sheet to be missing", Edges::rich, (x, v) -> x.sheet(v, 0, 1), 0, 3);
        for (int bits : new int[] {LEAST, -32, -16, -8, -1, 1, 2, 4, 7, 9, 15, 17, 24, 31, 33, 64, 264, MOST}) {
            Edges.refused("P28 bits " + bits, EdgesOfSheetsTest::sheets, x -> x.sheet(0, bits, 1), Checks.BEYOND);
        }
        for (int bits : new int[] {0, 8, 16, 32}) {
            Edges.allowed("P28 bits " + bits, EdgesOfSheetsTest::sheets, x -> x.sheet(3, bits, 1), 1);
        }
        for (int bits : new int[] {8, 16, 32}) {
            for (int n : new int[] {41, 42, 256, MOST}) {
                Edges.refused("P28 n " + n, EdgesOfSheetsTest::sheets, x -> x.sheet(0, bits, n), Checks.BEYOND);
            }
            Edges.allowed("P28 n 40", EdgesOfSheetsTest::sheets, x -> x.sheet(0, bits, 40), 1);
            Edges.allowed("P28 n 0", EdgesOfSheetsTest::sheets, x -> x.sheet(0, bits, 0), 1);
        }
    }

    /** Promise 28: "STATE: n is below 0". */
    private static void p28SheetState() {
        for (int bits : new int[] {8, 16, 32}) {
            for (int n : new int[] {-1, -40, LEAST}) {
                Edges.refused("P28 n " + n, EdgesOfSheetsTest::sheets, x -> x.sheet(0, bits, n), Checks.STATE);
                Edges.refused("P28 n " + n, EdgesOfSheetsTest::sheets, x -> x.sheet(3, bits, n), Checks.STATE);
            }
        }
    }

    /** Promise 28: "BEYOND. STATE: n is below 0 (ahead of BEYOND of n).". */
    private static void p28SheetInOrder() {
        for (int n : new int[] {-1, LEAST, 41}) {
            Edges.refused("P28 sheet, n " + n, EdgesOfSheetsTest::sheets, x -> x.sheet(4, 8, n), Checks.BEYOND);
            Edges.refused("P28 sheet, n " + n, EdgesOfSheetsTest::sheets, x -> x.sheet(-1, 8, n), Checks.BEYOND);
            Edges.refused("P28 bits, n " + n, EdgesOfSheetsTest::sheets, x -> x.sheet(0, 9, n), Checks.BEYOND);
            Edges.refused("P28 sheet to be missing", EdgesOfSheetsTest::sheets, x -> x.sheet(4, 0, n), Checks.BEYOND);
        }
    }

    /** Terms, 4: "at most 40 numbers", and promise 28: "n numbers, all 0". */
    private static void p28SheetOf0To40() {
        FieldsTold x = sheets();
        Checks.same("P28 no numbers", x.sheet(0, 8, 0), 1);
        Checks.same("P28 number 0 of none", x.put(0, 0, 1), Checks.BEYOND);
        Checks.same("P28 one number", x.sheet(0, 8, 1), 1);
        Checks.same("P28 number 0 of one", x.put(0, 0, 1), 1);
        Checks.same("P28 number 1 of one", x.put(0, 1, 1), Checks.BEYOND);
        Checks.same("P28 forty numbers", x.sheet(0, 8, 40), 1);
        Checks.same("P28 number 39 of forty", x.put(0, 39, 1), 1);
        Checks.same("P28 number 40 of forty", x.put(0, 40, 1), Checks.BEYOND);
    }

    /** Promise 28: "all 0", also where numbers stood ahead. */
    private static void p28SheetAnew() {
        FieldsTold x = Edges.road(14, 3);
        Checks.read(x, 0, "1");
        Checks.row(x, 0, 8, 5, 6, 7);
        Checks.same("P28 anew", x.sheet(0, 8, 3), 1);
        Checks.same("P28 all are 0", x.judge(0), -1);
        Checks.row(x, 0, 8, 5, 6, 7);
        Checks.same("P28 fewer", x.sheet(0, 8, 1), 1);
        Checks.same("P28 more again", x.sheet(0, 32, 3), 1);
        Checks.same("P28 all are 0", x.judge(0), -1);
    }

    /** Promise 28: "(.. 0: it is missing, n doesn't matter)". */
    private static void p28SheetMissing() {
        for (int n : new int[] {LEAST, -1, 0, 1, 40, 41, MOST}) {
            Edges.allowed("P28 to be missing, n " + n, EdgesOfSheetsTest::sheets, x -> x.sheet(0, 0, n), 1);
            Edges.allowed("P28 missing already, n " + n, EdgesOfSheetsTest::sheets, x -> x.sheet(3, 0, n), 1);
            FieldsTold x = sheets();
            x.sheet(0, 0, n);
            Checks.same("P28 it is missing", x.put(0, 0, 1), Checks.NONE);
            Checks.same("P28 it is missing", x.judge(0), Checks.NONE);
            Checks.same("P28 the others aren't", x.put(1, 0, 1), 1);
        }
    }

    /** Promise 29: "BEYOND: no such SHEET. NONE: it is missing.". */
    private static void p29PutBeyondAndNone() {
        Edges.bounds("P29 sheet", Edges::rich, (x, v) -> x.put(v, 0, 1), 0, 3);
        Edges.refused("P29 missing", EdgesOfSheetsTest::sheets, x -> x.put(3, 0, 1), Checks.NONE);
        Edges.allowed("P29 of 8 bits", EdgesOfSheetsTest::sheets, x -> x.put(1, 1, MOST), 1);
        Edges.allowed("P29 of 16 bits", EdgesOfSheetsTest::sheets, x -> x.put(2, 2, LEAST), 1);
    }

    /** Promise 29: "BEYOND: no such number.". */
    private static void p29PutNoSuchNumber() {
        Edges.bounds("P29 number of 3", EdgesOfSheetsTest::sheets, (x, v) -> x.put(0, v, 9), 0, 2);
        Edges.bounds("P29 number of 2", EdgesOfSheetsTest::sheets, (x, v) -> x.put(1, v, 9), 0, 1);
        Edges.bounds("P29 number of 40", Edges::rich, (x, v) -> x.put(2, v, 9), 0, 39);
        Edges.refused("P29 number of none", () -> ofNone(), x -> x.put(0, 0, 9), Checks.BEYOND);
    }

    private static FieldsTold ofNone() {
        FieldsTold x = sheets();
        x.sheet(0, 8, 0);
        return x;
    }

    /** Promise 29: "BEYOND: .. NONE: .. BEYOND: ..", in this order. */
    private static void p29PutInOrder() {
        Edges.refused("P29 sheet, number", EdgesOfSheetsTest::sheets, x -> x.put(4, -1, 1), Checks.BEYOND);
        Edges.refused("P29 missing, number", EdgesOfSheetsTest::sheets, x -> x.put(3, -1, 1), Checks.NONE);
        Edges.refused("P29 missing, number", EdgesOfSheetsTest::sheets, x -> x.put(3, 40, 1), Checks.NONE);
    }

    private static void puts(int bits, int v, int asAcres) {
        FieldsTold x = Edges.road(0, 1);
        x.sheet(0, bits, 1);
        Checks.same("P29 put", x.put(0, 0, v), 1);
        Checks.same("P29 " + v + " by " + bits + " bits", x.acres(0), asAcres > 0 ? 1 : 0);
        Checks.same("P29 " + v + " by " + bits + " bits", x.ofField(0, 2), asAcres > 0 ? asAcres : 99);
    }

    private static void putsNone(int bits, int v, boolean isNone) {
        FieldsTold x = Edges.road(0, 1);
        Checks.row(x, 0, bits, v);
        Checks.same("P29 " + v + " by " + bits + " bits as -1", x.judge(0), isNone ? -1 : 0);
        x.become(0, 10);
        Checks.read(x, 0, "1");
        Checks.same("P29 " + v + " by " + bits + " bits as 0", x.judge(0), (v & (1L << bits) - 1) == 0 ? -1 : 0);
    }

    /** Promise 29: "becomes v (its lowest bits)", and Terms, 4: "rows of 8, 16, 32 bits": from both ends of ints. */
    private static void p29PutLowestBits() {
        int[] to8 = {256 + 1, 1, 256 + 99, 99, -255, 1, -157, 99, 256 + 100, 0, 256, 0, 127, 0, 128, 0, LEAST + 5, 5};
        for (int i = 0; i < to8.length; i += 2) {
            puts(8, to8[i], to8[i + 1]);
        }
        int[] to16 = {65536 + 1, 1, 65536 + 99, 99, -65535, 1, 256 + 1, 0, 65536 + 256 + 1, 0, 32767, 0, LEAST + 5, 5};
        for (int i = 0; i < to16.length; i += 2) {
            puts(16, to16[i], to16[i + 1]);
        }
        int[] to32 = {1, 1, 99, 99, 100, 0, 0, 0, 257, 0, 65537, 0, LEAST + 5, 0, MOST, 0, LEAST, 0};
        for (int i = 0; i < to32.length; i += 2) {
            puts(32, to32[i], to32[i + 1]);
        }
        for (int v : new int[] {-1, 65535, 16777215, MOST}) {
            putsNone(8, v, true);
            putsNone(16, v, true);
            putsNone(32, v, v == -1);
        }
        for (int v : new int[] {255, 511, 32767, 127, 128, 254, 256, 32768, 65534, 65536, LEAST, 0, -2}) {
            putsNone(8, v, v == 255 || v == 511 || v == 32767);
            putsNone(16, v, false);
            putsNone(32, v, false);
        }
    }

    /** Promise 30: "BEYOND: no such SHEET.", of both. */
    private static void p30MoveNoSuchSheet() {
        Edges.bounds("P30 the one", Edges::rich, (x, v) -> x.move(v, 0, 1, 0, 1), 0, 3);
        Edges.bounds("P30 the other", Edges::rich, (x, v) -> x.move(1, 0, v, 0, 1), 0, 3);
        Edges.refused("P30 both", Edges::rich, x -> x.move(4, 0, -1, 0, 1), Checks.BEYOND);
    }

    /** Promise 30: "NONE: one is missing.". */
    private static void p30MoveMissing() {
        Edges.refused("P30 the one is missing", EdgesOfSheetsTest::sheets, x -> x.move(3, 0, 0, 0, 0), Checks.NONE);
        Edges.refused("P30 the other is missing", EdgesOfSheetsTest::sheets, x -> x.move(0, 0, 3, 0, 0), Checks.NONE);
        Edges.refused("P30 both are missing", EdgesOfSheetsTest::sheets, x -> x.move(3, 0, 3, 0, 0), Checks.NONE);
    }

    /** Promise 30: "KIND: they are of unlike bits.". */
    private static void p30MoveUnlike() {
        int[] widths = {8, 16, 32};
        for (int from : widths) {
            for (int to : widths) {
                FieldsTold x = new FieldsTold();
                x.sheet(0, from, 2);
                x.sheet(1, to, 2);
                Checks.same("P30 from " + from + " to " + to, x.move(0, 0, 1, 0, 2), from == to ? 2 : Checks.KIND);
            }
        }
        Edges.refused("P30 unlike", EdgesOfSheetsTest::sheets, x -> x.move(0, 0, 2, 0, 1), Checks.KIND);
        Edges.refused("P30 unlike, of none", EdgesOfSheetsTest::sheets, x -> x.move(2, 0, 0, 0, 0), Checks.KIND);
        Edges.allowed("P30 alike", EdgesOfSheetsTest::sheets, x -> x.move(0, 0, 1, 0, 1), 1);
    }

    private static Edges.Act move(int i, int j, int n) {
        return x -> x.move(0, i, 1, j, n);
    }

    /** Promise 30: "BEYOND: n, i, or j is below 0". */
    private static void p30MoveBelow0() {
        for (int below : new int[] {-1, -2, LEAST}) {
            Edges.refused("P30 n " + below, EdgesOfSheetsTest::sheets, move(0, 0, below), Checks.BEYOND);
            Edges.refused("P30 i " + below, EdgesOfSheetsTest::sheets, move(below, 0, 1), Checks.BEYOND);
            Edges.refused("P30 j " + below, EdgesOfSheetsTest::sheets, move(0, below, 1), Checks.BEYOND);
            Edges.refused("P30 i " + below + ", n 0", EdgesOfSheetsTest::sheets, move(below, 0, 0), Checks.BEYOND);
            Edges.refused("P30 j " + below + ", n 0", EdgesOfSheetsTest::sheets, move(0, below, 0), Checks.BEYOND);
            Edges.refused("P30 i and n " + below, EdgesOfSheetsTest::sheets, move(below, 0, below), Checks.BEYOND);
        }
        Edges.allowed("P30 all 0", EdgesOfSheetsTest::sheets, move(0, 0, 0), 0);
    }

    /** Promise 30: "or they don't stand there.": from 3 numbers to 2, the last place and the first behind it. */
    private static void p30MoveWhereTheyDontStand() {
        int[][] there = {{0, 0, 2}, {1, 0, 2}, {2, 0, 1}, {2, 1, 1}, {0, 1, 1}};
        int[][] beyond = {{0, 0, 3}, {2, 0, 2}, {3, 0, 1}, {0, 1, 2}, {0, 2, 1}, {1, 1, 2}, {MOST, 0, 1}, {0, MOST, 1},
            {0, 0, MOST}, {MOST, 0, MOST}, {0, MOST, MOST}, {MOST, MOST, MOST}, {1, 0, MOST}, {0, 1, MOST}, {2, 0, LEAST}};
        for (int[] b : there) {
            Edges.allowed("P30 " + b[0] + ", " + b[1] + ", " + b[2], EdgesOfSheetsTest::sheets, move(b[0], b[1], b[2]), b[2]);
        }
        for (int[] b : beyond) {
            Edges.refused("P30 " + b[0] + ", " + b[1] + ", " + b[2], EdgesOfSheetsTest::sheets, move(b[0], b[1], b[2]),
                    Checks.BEYOND);
        }
    }

    /** Promise 30: "n numbers", none: at the ends they stand there, behind them they don't. */
    private static void p30MoveNone() {
        Edges.allowed("P30 none, at the ends", EdgesOfSheetsTest::sheets, move(3, 2, 0), 0);
        Edges.refused("P30 none, behind the one's end", EdgesOfSheetsTest::sheets, move(4, 0, 0), Checks.BEYOND);
        Edges.refused("P30 none, behind the other's end", EdgesOfSheetsTest::sheets, move(0, 3, 0), Checks.BEYOND);
        Edges.refused("P30 none, far behind", EdgesOfSheetsTest::sheets, move(MOST, 0, 0), Checks.BEYOND);
        Edges.allowed("P30 none of none", () -> ofNone(), move(0, 0, 0), 0);
        Edges.refused("P30 one of none", () -> ofNone(), move(0, 0, 1), Checks.BEYOND);
    }

    /** Terms, 4: "at most 40 numbers": all 40 at once, and the last alone. */
    private static void p30MoveAll40() {
        FieldsTold x = Edges.road(0, 1);
        x.sheet(0, 32, 40);
        x.sheet(1, 32, 40);
        x.put(0, 0, 5);
        x.put(0, 39, 6);
        Checks.same("P30 all 40", x.move(0, 0, 1, 0, 40), 40);
        Checks.same("P30 the first", x.acres(1), 1);
        Checks.same("P30 the first", x.ofField(0, 2), 5);
        Checks.same("P30 41", x.move(0, 0, 1, 0, 41), Checks.BEYOND);
        Checks.same("P30 the last to the first", x.move(1, 39, 1, 0, 1), 1);
        Checks.same("P30 the last to the first", x.acres(1), 1);
        Checks.same("P30 the last to the first", x.ofField(0, 2), 6);
        Checks.same("P30 the one behind the last", x.move(1, 40, 1, 0, 1), Checks.BEYOND);
        Checks.same("P30 the first to the last", x.move(0, 0, 1, 39, 1), 1);
        Checks.same("P30 behind the last", x.move(0, 0, 1, 39, 2), Checks.BEYOND);
        Checks.same("P30 back", x.move(1, 39, 1, 0, 1), 1);
        Checks.same("P30 back", x.acres(1), 1);
        Checks.same("P30 back", x.ofField(0, 2), 5);
    }

    private static void becomes(int i, int j, int n, int... due) {
        FieldsTold x = Edges.road(0, 5);
        Checks.row(x, 2, 16, 1, 2, 3, 4, 5);
        Checks.same("P30 onto itself", x.move(2, i, 2, j, n), n);
        Checks.same("P30 onto itself", x.acres(2), 5);
        for (int k = 0; k < 5; k++) {
            Checks.same("P30 onto itself from " + i + " to " + j + ", number " + k, x.ofField(k, 2), due[k]);
        }
    }

    /** Promise 30: "(or the same) .. as they all were". */
    private static void p30MoveAsTheyAllWere() {
        becomes(0, 1, 4, 1, 1, 2, 3, 4);
        becomes(1, 0, 4, 2, 3, 4, 5, 5);
        becomes(0, 2, 3, 1, 2, 1, 2, 3);
        becomes(2, 0, 3, 3, 4, 5, 4, 5);
        becomes(0, 0, 5, 1, 2, 3, 4, 5);
        becomes(4, 0, 1, 5, 2, 3, 4, 5);
        becomes(0, 4, 1, 1, 2, 3, 4, 1);
        becomes(5, 5, 0, 1, 2, 3, 4, 5);
    }

    /** Promise 30: "BEYOND: no such SHEET. NONE: .. KIND: .. BEYOND: ..", in this order. */
    private static void p30MoveInOrder() {
        Edges.refused("P30 sheet, missing", EdgesOfSheetsTest::sheets, x -> x.move(3, 0, 4, 0, 1), Checks.BEYOND);
        Edges.refused("P30 missing, sheet", EdgesOfSheetsTest::sheets, x -> x.move(-1, 0, 3, 0, 1), Checks.BEYOND);
        Edges.refused("P30 sheet, n", EdgesOfSheetsTest::sheets, x -> x.move(4, 0, 0, 0, -1), Checks.BEYOND);
        Edges.refused("P30 missing, unlike", EdgesOfSheetsTest::sheets, x -> x.move(3, 0, 2, 0, 1), Checks.NONE);
        Edges.refused("P30 missing, n", EdgesOfSheetsTest::sheets, x -> x.move(3, 0, 0, 0, -1), Checks.NONE);
        Edges.refused("P30 missing, j", EdgesOfSheetsTest::sheets, x -> x.move(0, 0, 3, 9, 1), Checks.NONE);
        Edges.refused("P30 unlike, n", EdgesOfSheetsTest::sheets, x -> x.move(0, 0, 2, 0, -1), Checks.KIND);
        Edges.refused("P30 unlike, i", EdgesOfSheetsTest::sheets, x -> x.move(2, 9, 1, 0, 1), Checks.KIND);
    }

    /** Promise 31: "BEYOND: no such SHEET. NONE: it is missing.". */
    private static void p31AcresBeyondAndNone() {
        Edges.bounds("P31 sheet", Edges::rich, FieldsTold::acres, 0, 3);
        Edges.refused("P31 missing", EdgesOfSheetsTest::sheets, x -> x.acres(3), Checks.NONE);
        Edges.allowed("P31 three", EdgesOfSheetsTest::sheets, x -> x.acres(0), 3);
        Edges.allowed("P31 two", EdgesOfSheetsTest::sheets, x -> x.acres(1), 2);
    }

    private static void acres(int due, int... numbers) {
        FieldsTold x = Edges.road(0, 3);
        for (int i = 0; i < 3; i++) {
            x.set(i, 0, 70 + i);
        }
        Checks.row(x, 0, 32, numbers);
        Checks.same("P31 how many", x.acres(0), due);
        for (int i = 0; i < 3; i++) {
            Checks.same("P31 acres of field " + i, x.ofField(i, 2), i < due ? numbers[i] : 70 + i);
        }
        Checks.same("P31 no error", Edges.errorsOf(x), 0);
    }

    /** Promise 31: "up to the first that is not 1 to 99 (no ERROR then)". */
    private static void p31Acres1To99() {
        acres(3, 1, 99, 50);
        acres(2, 1, 99, 0);
        acres(2, 1, 99, 100);
        acres(2, 1, 99, -1);
        acres(2, 1, 99, LEAST);
        acres(2, 1, 99, MOST);
        acres(1, 99, 0, 50);
        acres(1, 1, 100, 50);
        acres(0, 0, 1, 1);
        acres(0, 100, 1, 1);
        acres(0, -1, 1, 1);
    }

    /** Promise 31: "or for which there is no FIELD": the sheet is shorter, longer, of 0 and of 40 numbers. */
    private static void p31AcresForWhichThereIsAField() {
        acres(0);
        acres(1, 5);
        acres(2, 5, 6);
        acres(3, 5, 6, 7);
        acres(3, 5, 6, 7, 8);
        acres(3, 5, 6, 7, 100);
        Edges.allowed("P31 no fields", EdgesOfSheetsTest::noFields, x -> x.acres(0), 0);
        FieldsTold x = Edges.tenFields();
        x.sheet(0, 16, 40);
        for (int i = 0; i < 40; i++) {
            x.put(0, i, 40 + i);
        }
        Checks.same("P31 ten of 40", x.acres(0), 10);
        Checks.same("P31 the tenth", x.ofField(9, 2), 49);
    }

    private static FieldsTold noFields() {
        FieldsTold x = new FieldsTold();
        Checks.row(x, 0, 8, 1, 2, 3);
        return x;
    }

    /** Promise 32: "BEYOND: no such SHEET. NONE: it is missing.". */
    private static void p32JudgeBeyondAndNone() {
        Edges.bounds("P32 sheet", Edges::rich, FieldsTold::judge, 0, 3);
        Edges.refused("P32 missing", EdgesOfSheetsTest::sheets, x -> x.judge(3), Checks.NONE);
        Edges.refused("P32 missing, no fields", Edges::bare, x -> x.judge(0), Checks.NONE);
    }

    /** Four fields: owner 2's, nobody's (but one says so), owner 0's, nobody's. */
    private static FieldsTold owned() {
        FieldsTold x = Edges.road(0, 4);
        Checks.tell(x, 2, 0, 3);
        Checks.tell(x, 1, 1, 1);
        Checks.tell(x, 0, 2, 3);
        return x;
    }

    private static void judges(int due, int... numbers) {
        for (int bits : new int[] {8, 16, 32}) {
            FieldsTold x = owned();
            Checks.row(x, 0, bits, numbers);
            Checks.same("P32 by " + bits + " bits, " + numbers.length + " numbers", x.judge(0), due);
            Checks.same("P32 no error", Edges.errorsOf(x), 0);
        }
    }

    /** Promise 32: "the first that isn't so .. -1: all are", at each place. */
    private static void p32JudgeTheFirst() {
        judges(-1, 2, -1, 0, -1);
        judges(0, 1, -1, 0, -1);
        judges(1, 2, 1, 0, -1);
        judges(2, 2, -1, -1, -1);
        judges(3, 2, -1, 0, 0);
        judges(0, 3, 1, 1, 1);
        judges(1, 2, 0, 1, 1);
        judges(0, -1, -1, 0, -1);
    }

    /** Promise 32: "(one that lacks, or is too many, too)". */
    private static void p32JudgeOneThatLacksOrIsTooMany() {
        judges(3, 2, -1, 0);
        judges(2, 2, -1);
        judges(1, 2);
        judges(0);
        judges(4, 2, -1, 0, -1, -1);
        judges(4, 2, -1, 0, -1, 0, 0);
        judges(2, 2, -1, 1);
        judges(0, 1, -1, 0, -1, -1);
        FieldsTold x = new FieldsTold();
        x.sheet(0, 8, 0);
        Checks.same("P32 none of none", x.judge(0), -1);
        x.sheet(0, 8, 1);
        Checks.same("P32 one is too many", x.judge(0), 0);
        x.sheet(0, 8, 40);
        Checks.same("P32 40 are too many", x.judge(0), 0);
        FieldsTold y = Edges.tenFields();
        Checks.row(y, 0, 8, -1, -1, -1, -1, -1, -1, -1, -1, -1, -1);
        Checks.same("P32 ten of ten", y.judge(0), -1);
        Checks.row(y, 0, 8, -1, -1, -1, -1, -1, -1, -1, -1, -1);
        Checks.same("P32 the tenth lacks", y.judge(0), 9);
        Checks.row(y, 0, 8, -1, -1, -1, -1, -1, -1, -1, -1, -1, -1, -1);
        Checks.same("P32 an eleventh is too many", y.judge(0), 10);
    }

    /** Promise 32: "(-1: nobody's)": -1 by the bits of the row alone; -2 and 4 are nobody's and no owner's. */
    private static void p32JudgeNobodys() {
        FieldsTold x = Edges.road(0, 1);
        Checks.row(x, 0, 8, 255);
        Checks.same("P32 255 by 8 bits", x.judge(0), -1);
        Checks.row(x, 0, 16, 255);
        Checks.same("P32 255 by 16 bits", x.judge(0), 0);
        Checks.row(x, 0, 8, -2);
        Checks.same("P32 -2", x.judge(0), 0);
        Checks.row(x, 0, 8, 4);
        Checks.same("P32 4", x.judge(0), 0);
    }
}
