/** Promises 1 to 38: each remark quotes sentences as a whole, its values worked out without the class. */
final class SentencesOfPromisesTest {
    private SentencesOfPromisesTest() {
    }

    public static void main(String[] args) {
        p1();
        p2();
        p3();
        p4();
        p5();
        p6();
        p7();
        p8();
        p9();
        p10();
        p11();
        p12();
        p13();
        p14();
        p15();
        p16();
        p17();
        p18();
        p19();
        p20();
        p21();
        p22();
        p23();
        p24();
        p25();
        p26();
        p27();
        p28();
        p29();
        p30();
        p31();
        p32();
        p33();
        p34();
        p35();
        p36();
        p37();
        p38();
        Checks.end("SentencesOfPromisesTest");
    }

    /**
     * Four fields of 10, 20, 30, 40 acres: owner 1's (told thrice), owner 2's (a parrot, told 3 and 4 times), nobody's
     * (a loyal one, told by owner 3 twice), owner 1's by an echo (told thrice itself).
     */
    private static FieldsTold four() {
        FieldsTold x = new FieldsTold();
        Checks.same("P2 field 0", x.field(4, 10), 0);
        Checks.same("P2 field 1", x.field(53, 20), 1);
        Checks.same("P2 field 2", x.field(38, 30), 2);
        Checks.same("P2 field 3", x.field(61, 40), 3);
        Checks.tell(x, 1, 0, 3);
        Checks.tell(x, 1, 1, 3);
        Checks.tell(x, 2, 1, 4);
        Checks.tell(x, 3, 2, 2);
        Checks.tell(x, 1, 3, 3);
        return x;
    }

    /** Promise 1: "All as at first; no FIELDS." */
    private static void p1() {
        FieldsTold x = four();
        x.pace(9);
        x.image();
        FieldsTold y = new FieldsTold();
        int[] counts = {0, 0, 0, 0, 4, 0, 0, 0, 0, 1};
        for (int what = 0; what < 10; what++) {
            Checks.same("P1 count(" + what + ") of an object beside another", y.count(what), counts[what]);
        }
        Checks.same("P1 no field", y.forgets(0), Checks.BEYOND);
        Checks.same("P1 no image", y.restore(), Checks.NONE);
        Checks.same("P1 the other one stays", x.count(0), 4);
    }

    /**
     * Promise 2: "A FIELD, at the end of the road, with a MOWER (km: 10 times the KIND, and m) that nobody told: its
     * number. BEYOND. FULL."
     */
    private static void p2() {
        FieldsTold x = four();
        Checks.same("P2 the end of the road", x.field(67, 99), 4);
        Checks.same("P2 its kind", x.ofField(4, 0), 6);
        Checks.same("P2 its m", x.ofField(4, 1), 7);
        Checks.same("P2 its acres", x.ofField(4, 2), 99);
        Checks.same("P2 nobody told it", x.ofField(4, 9), 0);
        Checks.same("P2 no first", x.ofField(4, 4), -1);
        Checks.same("P2 no last", x.ofField(4, 5), -1);
        Checks.same("P2 it echoes what an echo ahead says", x.ofField(4, 6), 3);
        Checks.same("P2 km 77", x.field(77, 1), Checks.BEYOND);
        for (int i = 5; i < 10; i++) {
            Checks.same("P2 its number", x.field(i, i), i);
        }
        Checks.same("P2 an eleventh", x.field(1, 1), Checks.FULL);
    }

    /**
     * Promise 3: "Of a FIELD: 0 KIND of its MOWER, 1 m, 2 ACRES, 3 DITCH, 4 the FIRST (-1: none), 5 the LAST (-1), 6
     * what the MOWER SAYS (-1: none), 7 whose it is (-1: nobody's), 8 RENT (0: nobody's), 9 TELLINGS by all. BEYOND."
     */
    private static void p3() {
        FieldsTold x = four();
        x.set(1, 1, 6);
        x.field(40, 50);
        int[][] due = {{0, 4, 10, 0, 1, 1, 1, 1, 10, 3}, {5, 3, 20, 6, 1, 2, 2, 2, 20, 7},
            {3, 8, 30, 0, 3, 3, 3, -1, 0, 2}, {6, 1, 40, 0, 1, 1, 3, -1, 0, 3}, {4, 0, 50, 0, -1, -1, -1, -1, 0, 0}};
        for (int i = 0; i < due.length; i++) {
            for (int what = 0; what < 10; what++) {
                Checks.same("P3 ofField(" + i + ", " + what + ")", x.ofField(i, what), due[i][what]);
            }
        }
        x.tells(3, 3);
        Checks.same("P3 the echo's first", x.ofField(3, 4), 1);
        Checks.same("P3 the echo's last", x.ofField(3, 5), 3);
        Checks.same("P3 field 5", x.ofField(5, 0), Checks.BEYOND);
        Checks.same("P3 what 10", x.ofField(0, 10), Checks.BEYOND);
    }

    /** Promise 4: "TELLINGS of an OWNER to the MOWER of a FIELD. BEYOND." */
    private static void p4() {
        FieldsTold x = four();
        int[][] due = {{0, 3, 0, 0}, {0, 3, 4, 0}, {0, 0, 0, 2}, {0, 3, 0, 0}};
        for (int i = 0; i < 16; i++) {
            Checks.same("P4 tellings(" + i / 4 + ", " + i % 4 + ")", x.tellings(i / 4, i % 4), due[i / 4][i % 4]);
        }
        Checks.same("P4 field 4", x.tellings(4, 0), Checks.BEYOND);
        Checks.same("P4 owner 4", x.tellings(0, 4), Checks.BEYOND);
    }

    /**
     * Promise 5: "Of an OWNER: 0 FEAR, 1 how many FIELDS are of that one, 2 ACRES of them, 3 RENTS of them. BEYOND."
     */
    private static void p5() {
        FieldsTold x = four();
        x.tells(3, 2);
        Checks.tell(x, 1, 2, 9);
        Checks.read(x, 1, "a*n+m");
        // field 2 is loyal to owner 3 now; the echo behind it says so, too, but owner 3 never told it
        int[][] due = {{0, 0, 0, 0}, {1, 1, 10, 34}, {2, 1, 20, 83}, {3, 1, 30, 98}};
        for (int i = 0; i < 16; i++) {
            Checks.same("P5 ofOwner(" + i / 4 + ", " + i % 4 + ")", x.ofOwner(i / 4, i % 4), due[i / 4][i % 4]);
        }
        x.become(2, 0);
        int[] then = {1, 3, 80, 34 + 270 + 121};
        for (int what = 0; what < 4; what++) {
            Checks.same("P5 of owner 1 then, " + what, x.ofOwner(1, what), then[what]);
        }
        Checks.same("P5 what 4", x.ofOwner(1, 4), Checks.BEYOND);
    }

    /**
     * Promise 6: "The MOWER of a FIELD becomes one of a KIND, with m (km; what it was told stays): the KIND that it
     * was. BEYOND."
     */
    private static void p6() {
        FieldsTold x = four();
        Checks.same("P6 a parrot", x.become(1, 29), 5);
        Checks.same("P6 its kind", x.ofField(1, 0), 2);
        Checks.same("P6 its m", x.ofField(1, 1), 9);
        Checks.same("P6 what it was told", x.ofField(1, 9), 7);
        Checks.same("P6 a fearful one", x.become(1, 30), 2);
        Checks.same("P6 it says its first", x.ofField(1, 6), 1);
        Checks.same("P6 a loyal one", x.become(1, 48), 3);
        Checks.same("P6 it says 8 by 4", x.ofField(1, 6), 0);
        Checks.same("P6 a silent one", x.become(1, 0), 4);
        Checks.same("P6 it says its last", x.ofField(1, 6), 2);
        Checks.same("P6 the others are as they were", x.ofField(2, 0), 3);
        Checks.same("P6 km 70", x.become(1, 70), Checks.BEYOND);
    }

    /**
     * Promise 7: "The MOWER of a FIELD as one of a KIND: m. BEYOND. KIND: it isn't of that KIND, nor of one under it."
     */
    private static void p7() {
        FieldsTold x = four();
        int[] fields = {0, 1, 1, 1, 2, 2, 3, 3, 3};
        int[] kinds = {0, 0, 2, 5, 0, 3, 0, 3, 6};
        int[] due = {4, 3, 3, 3, 8, 8, 1, 1, 1};
        for (int i = 0; i < due.length; i++) {
            Checks.same("P7 field " + fields[i] + " as " + kinds[i], x.as(fields[i], kinds[i]), due[i]);
        }
        Checks.same("P7 a mower is no deaf one", x.as(0, 1), Checks.KIND);
        Checks.same("P7 a loyal one is no echo", x.as(2, 6), Checks.KIND);
        Checks.same("P7 a parrot is no loyal one", x.as(1, 3), Checks.KIND);
        Checks.same("P7 kind 7", x.as(0, 7), Checks.BEYOND);
    }

    /** Promise 8: "ACRES (what 0), DITCH (1) of a FIELD becomes v: what it was. BEYOND." */
    private static void p8() {
        FieldsTold x = four();
        Checks.same("P8 acres", x.set(0, 0, 11), 10);
        Checks.same("P8 a ditch", x.set(0, 1, 7), 0);
        Checks.same("P8 acres", x.set(0, 0, 12), 11);
        Checks.same("P8 a ditch", x.set(0, 1, 8), 7);
        Checks.same("P8 what they are", x.ofOwner(1, 2), 12);
        Checks.same("P8 what they are", x.coach(0), 4 + 8);
        Checks.same("P8 what 2", x.set(0, 2, 5), Checks.BEYOND);
    }

    /** Promise 9: "FEAR of an OWNER becomes v: what it was. BEYOND." */
    private static void p9() {
        FieldsTold x = four();
        x.become(1, 20);
        Checks.same("P9 it says", x.ofField(1, 6), 2);
        Checks.same("P9 fear", x.fear(1, 3), 1);
        Checks.same("P9 it says", x.ofField(1, 6), 1);
        Checks.same("P9 fear", x.fear(1, 2), 3);
        Checks.same("P9 of several the least", x.ofField(1, 6), 1);
        Checks.same("P9 its fear", x.ofOwner(1, 0), 2);
        Checks.same("P9 owner 4", x.fear(4, 1), Checks.BEYOND);
    }

    /** Promise 10: "PACE becomes v: what it was. BEYOND." */
    private static void p10() {
        FieldsTold x = four();
        Checks.same("P10 pace", x.pace(5), 4);
        Checks.same("P10 pace", x.pace(6), 5);
        Checks.same("P10 what it is", x.count(4), 6);
        Checks.same("P10 the coach", x.coach(3), 24);
        Checks.same("P10 a pace of 21", x.pace(21), Checks.BEYOND);
    }

    /** Promise 11: "The MOWER of a FIELD forgets what it was told: how many TELLINGS. BEYOND." */
    private static void p11() {
        FieldsTold x = four();
        Checks.same("P11 seven", x.forgets(1), 7);
        int[] due = {5, 3, 20, 0, -1, -1, -1, -1, 0, 0};
        for (int what = 0; what < 10; what++) {
            Checks.same("P11 ofField(1, " + what + ") then", x.ofField(1, what), due[what]);
        }
        Checks.same("P11 the others know", x.count(5), 8);
        Checks.same("P11 none is lost by it", x.count(2), 1);
        Checks.same("P11 field 4", x.forgets(4), Checks.BEYOND);
    }

    /** Promise 12: "A TELLING: whose the FIELD is then (-1: nobody's)." */
    private static void p12() {
        FieldsTold x = four();
        Checks.same("P12 it stays owner 1's", x.tells(1, 0), 1);
        Checks.same("P12 nobody's", x.tells(2, 0), -1);
        Checks.same("P12 a parrot's most", x.tells(1, 1), 1);
        Checks.same("P12 a parrot's most", x.tells(0, 1), 1);
        Checks.same("P12 a loyal one's first", x.tells(3, 2), 3);
        Checks.same("P12 a loyal one's first", x.tells(0, 2), 3);
        Checks.same("P12 an echo of it, told by owner 3 once", x.tells(3, 3), -1);
        refusesTells();
    }

    /** Promise 12: "BEYOND. STATE: TELLINGS are 9 already, or MINUTE is 9999." */
    private static void refusesTells() {
        FieldsTold x = four();
        Checks.same("P12 owner 4", x.tells(4, 0), Checks.BEYOND);
        Checks.same("P12 field 4", x.tells(0, 4), Checks.BEYOND);
        Checks.tell(x, 1, 0, 6);
        Checks.same("P12 nine", x.tellings(0, 1), 9);
        Checks.same("P12 nine already", x.tells(1, 0), Checks.STATE);
        Checks.same("P12 of another owner", x.tells(2, 0), -1);
        for (int i = 0; i < 4; i++) {
            x.become(i, 10);
            x.forgets(i);
        }
        for (int left = 9999 - x.count(1); left > 0; left -= 100) {
            x.loose(Math.min(100, left));
        }
        Checks.same("P12 the minute", x.count(1), 9999);
        Checks.same("P12 the last minute", x.tells(0, 0), Checks.STATE);
        Checks.same("P12 the last minute", x.tells(0, 4), Checks.BEYOND);
    }

    /**
     * Promise 13: "n (1 to 100) TELLINGS by draws (one that STATE would refuse is left out; its draws aren't): how many
     * were. BEYOND. STATE: there are no FIELDS."
     */
    private static void p13() {
        FieldsTold x = Edges.road(0, 2);
        Checks.tell(x, 2, 0, 9);
        // by z 1 the first six draw owners 2 0 3 2 0 2 and fields 0 1 0 0 1 0
        Checks.same("P13 of six three would be a tenth", x.loose(6), 3);
        Checks.same("P13 twelve draws", x.count(9), 836760821);
        Checks.same("P13 minutes", x.count(1), 12);
        Checks.same("P13 owner 2 to field 0", x.tellings(0, 2), 9);
        Checks.same("P13 owner 0 to field 1", x.tellings(1, 0), 2);
        Checks.same("P13 owner 3 to field 0", x.tellings(0, 3), 1);
        Checks.same("P13 field 1's last", x.ofField(1, 5), 0);
        Checks.same("P13 none", x.loose(0), Checks.BEYOND);
        Checks.same("P13 no fields", new FieldsTold().loose(6), Checks.STATE);
    }

    /**
     * Promise 14: "The n lowest bytes (1 .. 8) of a word, the lowest first, come to THE TAPE: how many there are.
     * BEYOND. FULL."
     */
    private static void p14() {
        FieldsTold x = new FieldsTold();
        // the bytes of 0x2b372a6e2d3966 are, the lowest first: f 9 - n * 7 +
        Checks.same("P14 bytes", x.feed(0x2b372a6e2d3966L, 1), 1);
        Checks.same("P14 bytes", x.feed(0x2b372a6e2dL, 4), 5);
        Checks.same("P14 its text", x.text(0), 1);
        Checks.same("P14 f-n*7", x.law(0, 2, 0, 20), 6);
        Checks.same("P14 eight of eight", x.feed(0x3535353535353535L, 8), 8);
        Checks.same("P14 a number of eight digits", x.text(0), -14);
        for (int i = 1; i <= 16; i++) {
            Checks.same("P14 bytes", x.feed(0x6e7c6eL, 3), 3 * i);
        }
        Checks.same("P14 48 and 3", x.feed(0x6e7c6eL, 3), Checks.FULL);
        Checks.same("P14 48 and 2", x.feed(0x6e7c6eL, 2), 50);
        Checks.same("P14 none", x.feed(0x6e, 0), Checks.BEYOND);
    }

    /**
     * Promise 15: "THE TAPE, which is empty then, is the TEXT of a USE (0, 1), in place of one ahead: 1. BEYOND (THE
     * TAPE stays). -10 less the FAULT (no ERROR; the one ahead stays; THE TAPE is empty, too)."
     */
    private static void p15() {
        FieldsTold x = four();
        Checks.same("P15 a title", Checks.read(x, 0, "n>3"), 1);
        Checks.same("P15 the tape is empty", x.count(6), 0);
        Checks.same("P15 three aren't enough", x.ofField(0, 7), -1);
        Checks.same("P15 four are", x.ofField(1, 7), 2);
        Checks.same("P15 one in its place", Checks.read(x, 0, "n>1"), 1);
        Checks.same("P15 two are enough", x.ofField(2, 7), 3);
        Checks.same("P15 a rent", Checks.read(x, 1, "a+m"), 1);
        Checks.same("P15 the rent", x.ofField(2, 8), 38);
        Checks.feed(x, "a+m+n");
        Checks.same("P15 use 2", x.text(2), Checks.BEYOND);
        Checks.same("P15 use -1", x.text(-1), Checks.BEYOND);
        Checks.same("P15 the tape stays", x.count(6), 5);
        Checks.same("P15 no text of a title", x.text(0), -10);
        Checks.same("P15 the tape is empty, too", x.count(6), 0);
        Checks.same("P15 the one ahead stays", x.ofField(2, 7), 3);
        Checks.same("P15 no text of a rent", Checks.read(x, 1, "a+m+t"), -14);
        Checks.same("P15 the one ahead stays", x.ofField(2, 8), 38);
        Checks.same("P15 errors told", x.told(1), 2);
        Checks.same("P15 errors told", Edges.errorsOf(x), 2);
    }

    /** Promise 16: "What a USE gives with its NAMES in order as a, b, c (TITLE: any number). BEYOND." */
    private static void p16() {
        FieldsTold x = new FieldsTold();
        Checks.same("P16 n>2", x.law(0, 3, 100, 100), 1);
        Checks.same("P16 n>2", x.law(0, 2, 100, 100), 0);
        Checks.same("P16 a", x.law(1, 3, 100, 200), 3);
        Checks.read(x, 0, "n-t*f");
        Checks.same("P16 n, t, f", x.law(0, 5, 7, 1000), -6995);
        Checks.read(x, 1, "m-n*a");
        Checks.same("P16 a, n, m", x.law(1, 5, 7, 1000), 965);
        Checks.same("P16 held", x.law(1, -5, 7, 1000), 999);
        Checks.same("P16 held", x.law(1, 5, 7, 10), 0);
        Checks.same("P16 use 2", x.law(2, 1, 1, 1), Checks.BEYOND);
    }

    /** Promise 17: "NEEDED. BEYOND. NONE: by none." */
    private static void p17() {
        FieldsTold x = four();
        int none = Checks.NONE;
        int[][] due = {{3, 0, 3, 3}, {4, 1, 0, 5}, {none, none, none, 1}, {none, none, none, 3}};
        for (int i = 0; i < 16; i++) {
            Checks.same("P17 needed(" + i % 4 + ", " + i / 4 + ")", x.needed(i % 4, i / 4), due[i / 4][i % 4]);
        }
        Checks.same("P17 owner 4", x.needed(4, 0), Checks.BEYOND);
        Checks.same("P17 field 4", x.needed(0, 4), Checks.BEYOND);
        Checks.same("P17 by none, six times", x.told(2), 6);
    }

    /** Promise 18: "Behind how many MINUTES THE COACH is at a FIELD. BEYOND." */
    private static void p18() {
        FieldsTold x = four();
        x.set(1, 1, 2);
        x.set(3, 1, 5);
        int[] due = {4, 10, 14, 23};
        for (int i = 0; i < 4; i++) {
            Checks.same("P18 coach(" + i + ")", x.coach(i), due[i]);
        }
        Checks.same("P18 field 4", x.coach(4), Checks.BEYOND);
    }

    /** Promise 19: "GAIN: what 0 ACRES, 1 the set. BEYOND." */
    private static void p19() {
        FieldsTold x = four();
        // NEEDED by owners 0 to 3: 3 4 - -, 0 1 - -, 3 0 - -, 3 5 1 3; the coach is there at 4, 8, 12, 16
        int[] acres = {30, 30, 30, 90};
        int[] sets = {3, 3, 3, 14};
        for (int owner = 0; owner < 4; owner++) {
            Checks.same("P19 acres of owner " + owner, x.gain(owner, 0), acres[owner]);
            Checks.same("P19 the set of owner " + owner, x.gain(owner, 1), sets[owner]);
        }
        x.pace(3);
        // at 3, 6, 9, 12: fields 1, 2, 3 at 6, 8, 12
        Checks.same("P19 by a pace of 3", x.gain(3, 0), 90);
        Checks.same("P19 by a pace of 3", x.gain(3, 1), 14);
        Checks.same("P19 what 2", x.gain(0, 2), Checks.BEYOND);
    }

    /** Promise 20: "BY TURNS (any number). BEYOND: also one OWNER twice. STATE: there are no FIELDS." */
    private static void p20() {
        FieldsTold x = four();
        Checks.same("P20 as they are: 10 less 20", x.turns(1, 2, 0), -10);
        Checks.same("P20 as they are: 20 less 10", x.turns(2, 1, 0), 20 - 10);
        Checks.same("P20 one telling takes field 2 for owner 3", x.turns(3, 1, 1), 30 - 10);
        Checks.same("P20 one telling of owner 1 makes field 1 its own", x.turns(1, 2, 1), 30);
        Checks.same("P20 two tellings: owner 2 takes it back", x.turns(1, 2, 2), -10);
        Checks.same("P20 one owner twice", x.turns(2, 2, 0), Checks.BEYOND);
        Checks.same("P20 no fields", new FieldsTold().turns(1, 2, 0), Checks.STATE);
    }

    /** Promise 21: "ONE, by a SHEET: what 0 the least, 1 how many. BEYOND. NONE: the SHEET is missing; by none." */
    private static void p21() {
        FieldsTold x = four();
        Checks.row(x, 2, 16, 1, 2, 3, 3);
        // field 0: owner 1; field 1: 0, 2, 3 (by owner 1 the least of several is 1); fields 2, 3: all
        Checks.same("P21 how many leave it so", x.one(2, 1), 1 + 3 + 4 + 4);
        Checks.same("P21 the least", x.one(2, 0), 1);
        Checks.row(x, 2, 16, 1, 1, 3, 3);
        Checks.same("P21 owner 1 to field 1", x.one(2, 0), 11);
        Checks.same("P21 alone", x.one(2, 1), 1);
        Checks.row(x, 2, 16, 1, 1, 3, 1);
        Checks.same("P21 by none", x.one(2, 0), Checks.NONE);
        Checks.same("P21 missing", x.one(1, 0), Checks.NONE);
        Checks.same("P21 sheet 4", x.one(4, 0), Checks.BEYOND);
        Checks.same("P21 what 2", x.one(2, 2), Checks.BEYOND);
    }

    /** Promise 22: "FEARS, by a SHEET: what 0 the first, 1 how many. BEYOND. NONE: likewise." */
    private static void p22() {
        FieldsTold x = four();
        x.become(1, 52);
        Checks.row(x, 3, 8, 1, 1, 3, 3);
        Checks.same("P22 1 is feared more than 2", x.fears(3, 0), 213);
        Checks.same("P22 in half of all ways", x.fears(3, 1), 12);
        Checks.row(x, 3, 8, 1, 2, 3, 3);
        Checks.same("P22 2 is feared more than 1", x.fears(3, 0), 123);
        Checks.same("P22 in half of all ways", x.fears(3, 1), 12);
        Checks.row(x, 3, 8, 1, 0, 3, 3);
        Checks.same("P22 by none", x.fears(3, 0), Checks.NONE);
        Checks.same("P22 missing", x.fears(2, 0), Checks.NONE);
        Checks.same("P22 sheet 4", x.fears(4, 0), Checks.BEYOND);
        Checks.same("P22 what -1", x.fears(3, -1), Checks.BEYOND);
    }

    /** Promise 23: "SILENCE. BEYOND." */
    private static void p23() {
        FieldsTold x = four();
        x.become(2, 0);
        Checks.tell(x, 1, 2, 3);
        // fields 0, 2, 3 are owner 1's, field 1 is owner 2's
        int[][] due = {{0, 10, 0, 0}, {0, 0, 20, 0}, {0, 70, 0, 0}, {0, 40, 0, 0}};
        for (int i = 0; i < 16; i++) {
            Checks.same("P23 silence(" + i / 4 + ", " + i % 4 + ")", x.silence(i / 4, i % 4), due[i / 4][i % 4]);
        }
        Checks.same("P23 field 4", x.silence(4, 0), Checks.BEYOND);
        Checks.same("P23 owner -1", x.silence(0, -1), Checks.BEYOND);
    }

    /** Promise 24: "ODDS: part 0 above, 1 below the line. BEYOND." */
    private static void p24() {
        FieldsTold x = four();
        x.become(2, 6);
        Checks.tell(x, 1, 2, 3);
        // owner 1's are by m 4, 6, 1: 12 10 15 of 16 16 16
        Checks.same("P24 above", x.odds(1, 0), 225);
        Checks.same("P24 below", x.odds(1, 1), 512);
        Checks.same("P24 above", x.odds(2, 0), 13);
        Checks.same("P24 below", x.odds(2, 1), 16);
        Checks.same("P24 without any", x.odds(3, 0), 1);
        Checks.same("P24 without any", x.odds(3, 1), 1);
        Checks.same("P24 part 2", x.odds(1, 2), Checks.BEYOND);
    }

    /** Promise 25: "z becomes v: what it was (any number)." */
    private static void p25() {
        FieldsTold x = four();
        Checks.same("P25 at first", x.seed(-77), 1);
        Checks.same("P25 what it is", x.count(9), -77);
        Checks.same("P25 any number", x.seed(-1000000002), -77);
        Checks.same("P25 any number", x.seed(1), -1000000002);
        x.loose(1);
        Checks.same("P25 behind two draws", x.seed(0), -1770082073);
        Checks.same("P25 no error", Edges.errorsOf(x), 0);
    }

    /** Promise 26: "A VOICE of the MOWER of a FIELD: any number. BEYOND." */
    private static void p26() {
        FieldsTold x = four();
        // a mower of m 4 in field 0, a parrot of m 3 in 1, a loyal one of m 8 in 2, an echo of m 1 in 3, by x 10
        int[][] due = {{10, 20, 6, 20 ^ 6}, {11, 22, -8, 22 - (22 ^ -8)}, {12, 31, 2, 31 ^ 2}, {13, 28, 9, 28 ^ 9}};
        for (int i = 0; i < 16; i++) {
            Checks.same("P26 voice(" + i / 4 + ", " + i % 4 + ", 10)", x.voice(i / 4, i % 4, 10), due[i / 4][i % 4]);
        }
        Checks.same("P26 any number", x.voice(0, 0, -1000000003), -1000000003);
        Checks.same("P26 no error", Edges.errorsOf(x), 0);
        Checks.same("P26 field 4", x.voice(4, 0, 10), Checks.BEYOND);
        Checks.same("P26 act 4", x.voice(0, 4, 10), Checks.BEYOND);
    }

    /** Promise 27: "THE TRACE's i-th. NONE: there is none such." */
    private static void p27() {
        FieldsTold x = four();
        Checks.same("P27 none yet", x.trace(0), Checks.NONE);
        x.voice(3, 1, 10);
        int[] due = {70, 40, 11, 10, 12};
        for (int i = 0; i < due.length; i++) {
            Checks.same("P27 the " + i + "-th", x.trace(i), due[i]);
        }
        Checks.same("P27 behind the last", x.trace(5), Checks.NONE);
        Checks.same("P27 ahead of the first", x.trace(-1), Checks.NONE);
    }

    /**
     * Promise 28: "A SHEET has n numbers, all 0, of so many bits (8, 16, 32; 0: it is missing, n doesn't matter): 1.
     * BEYOND. STATE: n is below 0 (ahead of BEYOND of n)."
     */
    private static void p28() {
        FieldsTold x = four();
        x.become(0, 11);
        x.become(1, 10);
        Checks.read(x, 0, "1");
        Checks.same("P28 two numbers", x.sheet(1, 32, 2), 1);
        Checks.same("P28 the first is 0, field 0 is owner 1's", x.judge(1), 0);
        x.put(1, 0, 1);
        Checks.same("P28 the second is 0, as is field 1's owner; a third lacks", x.judge(1), 2);
        Checks.same("P28 no such bits", x.sheet(1, 12, 2), Checks.BEYOND);
        Checks.same("P28 n -2", x.sheet(1, 32, -2), Checks.STATE);
        Checks.same("P28 n 50", x.sheet(1, 32, 50), Checks.BEYOND);
        Checks.same("P28 as it was", x.judge(1), 2);
        Checks.same("P28 to be missing", x.sheet(1, 0, -2), 1);
        Checks.same("P28 missing", x.judge(1), Checks.NONE);
    }

    /**
     * Promise 29: "Number i of a SHEET becomes v (its lowest bits): 1. BEYOND: no such SHEET. NONE: it is missing.
     * BEYOND: no such number."
     */
    private static void p29() {
        FieldsTold x = four();
        int[] bits = {8, 16, 32};
        int[] v = {0x12345631, 0x12340032, 0x00000033};
        for (int i = 0; i < 3; i++) {
            x.sheet(i, bits[i], 2);
            Checks.same("P29 number 0", x.put(i, 0, v[i]), 1);
            Checks.same("P29 number 0 alone", x.acres(i), 1);
            Checks.same("P29 its lowest bits", x.ofField(0, 2), 0x31 + i);
        }
        Checks.same("P29 sheet 4", x.put(4, 0, 1), Checks.BEYOND);
        Checks.same("P29 missing", x.put(3, 0, 1), Checks.NONE);
        Checks.same("P29 number 2", x.put(0, 2, 1), Checks.BEYOND);
    }

    private static void hasAcres(FieldsTold x, int sheet, int... due) {
        Checks.same("P30 numbers of sheet " + sheet, x.acres(sheet), due.length);
        for (int i = 0; i < due.length; i++) {
            Checks.same("P30 number " + i + " of sheet " + sheet, x.ofField(i, 2), due[i]);
        }
    }

    /**
     * Promise 30: "n numbers of a SHEET, from number i on, come to another one (or the same), from its number j on, as
     * they all were: n. BEYOND: no such SHEET. NONE: one is missing. KIND: they are of unlike bits. BEYOND: n, i, or j
     * is below 0, or they don't stand there."
     */
    private static void p30() {
        FieldsTold x = four();
        Checks.row(x, 0, 16, 1, 2, 3, 4);
        Checks.row(x, 1, 16, 5, 6, 7, 8);
        Checks.row(x, 2, 8, 9, 9, 9, 9);
        Checks.same("P30 two", x.move(0, 1, 1, 2, 2), 2);
        hasAcres(x, 1, 5, 6, 2, 3);
        hasAcres(x, 0, 1, 2, 3, 4);
        Checks.same("P30 onto itself, up", x.move(1, 0, 1, 1, 3), 3);
        hasAcres(x, 1, 5, 5, 6, 2);
        Checks.same("P30 onto itself, down", x.move(0, 1, 0, 0, 3), 3);
        hasAcres(x, 0, 2, 3, 4, 4);
        Checks.same("P30 sheet 4", x.move(0, 0, 4, 0, 1), Checks.BEYOND);
        Checks.same("P30 missing", x.move(0, 0, 3, 0, 1), Checks.NONE);
        Checks.same("P30 unlike bits", x.move(0, 0, 2, 0, 1), Checks.KIND);
        Checks.same("P30 n -1", x.move(0, 0, 1, 0, -1), Checks.BEYOND);
        Checks.same("P30 i -1", x.move(0, -1, 1, 0, 1), Checks.BEYOND);
        Checks.same("P30 j -1", x.move(0, 0, 1, -1, 1), Checks.BEYOND);
        Checks.same("P30 from 2 on there are no three", x.move(0, 2, 1, 0, 3), Checks.BEYOND);
        Checks.same("P30 from 2 on there are no three", x.move(0, 0, 1, 2, 3), Checks.BEYOND);
        hasAcres(x, 0, 2, 3, 4, 4);
        hasAcres(x, 2, 9, 9, 9, 9);
    }

    /**
     * Promise 31: "Numbers of a SHEET are ACRES of FIELDS 0, 1, ..: how many, up to the first that is not 1 to 99 (no
     * ERROR then), or for which there is no FIELD. BEYOND: no such SHEET. NONE: it is missing."
     */
    private static void p31() {
        FieldsTold x = four();
        Checks.row(x, 0, 32, 50, 60, 100, 70);
        Checks.same("P31 two", x.acres(0), 2);
        Checks.same("P31 owner 1's acres", x.ofOwner(1, 2), 50);
        Checks.same("P31 owner 2's acres", x.ofOwner(2, 2), 60);
        Checks.same("P31 field 2's stay", x.ofField(2, 2), 30);
        Checks.same("P31 field 3's stay", x.ofField(3, 2), 40);
        Checks.row(x, 0, 32, 1, 2, 3, 4, 5, 6);
        Checks.same("P31 four", x.acres(0), 4);
        Checks.same("P31 field 3's", x.ofField(3, 2), 4);
        Checks.same("P31 no error", Edges.errorsOf(x), 0);
        Checks.same("P31 sheet -1", x.acres(-1), Checks.BEYOND);
        Checks.same("P31 missing", x.acres(1), Checks.NONE);
    }

    /**
     * Promise 32: "Numbers of a SHEET tell whose FIELDS 0, 1, .. are (-1: nobody's): the first that isn't so (one that
     * lacks, or is too many, too); -1: all are. BEYOND: no such SHEET. NONE: it is missing."
     */
    private static void p32() {
        FieldsTold x = four();
        int[][] rows = {{1, 2, -1, -1}, {1, 2, 3, 3}, {1, 2, -1, 3}, {2, 2, -1, -1}, {1, 1, 1, 1}, {1, 2, -1},
            {1, 2, -1, -1, -1}, {}};
        int[] due = {-1, 2, 3, 0, 1, 3, 4, 0};
        for (int i = 0; i < rows.length; i++) {
            Checks.row(x, 1, 8, rows[i]);
            Checks.same("P32 row " + i, x.judge(1), due[i]);
        }
        Checks.same("P32 sheet 4", x.judge(4), Checks.BEYOND);
        Checks.same("P32 missing", x.judge(0), Checks.NONE);
    }

    /**
     * Promise 33: "All (but SHEETS, THE TRACE, what told() tells, and how often this was done) is kept as an IMAGE, in
     * place of one ahead: how often that was done."
     */
    private static void p33() {
        FieldsTold x = four();
        Checks.same("P33 once", x.image(), 1);
        x.tells(2, 0);
        x.seed(12);
        x.tell(1);
        Checks.feed(x, "n>");
        String due = Checks.all(x);
        Checks.same("P33 twice", x.image(), 2);
        x.field(11, 11);
        x.fear(1, 6);
        x.pace(6);
        x.set(3, 1, 6);
        x.check();
        x.text(0);
        Checks.read(x, 0, "1");
        x.seed(13);
        x.sheet(0, 8, 3);
        x.voice(1, 3, 10);
        x.told(0);
        x.restore();
        x.voice(0, 0, 10);
        Checks.same("P33 the trace is of the latest voice", x.count(8), 1);
        x.image();
        Checks.same("P33 thrice, and once more", x.image(), 4);
        Checks.same("P33 what was told", x.told(1), 1);
        Checks.same("P33 the sheet", x.put(0, 2, 1), 1);
        FieldsTold y = four();
        y.tells(2, 0);
        y.seed(12);
        y.tell(1);
        Checks.feed(y, "n>");
        y.voice(0, 0, 10);
        Checks.isTrue("P33 all else is as the second image has it", Checks.all(y).equals(Checks.all(x)));
        Checks.isTrue("P33 that one is of then", !due.equals(Checks.all(x)) && x.count(1) == 16);
    }

    /** Promise 34: "All is as the IMAGE has it, which stays: MINUTE. NONE: there is none." */
    private static void p34() {
        FieldsTold x = four();
        Checks.same("P34 none", x.restore(), Checks.NONE);
        String due = Checks.all(x);
        x.image();
        for (int again = 0; again < 3; again++) {
            x.loose(20);
            x.forgets(again);
            x.become(3, 10);
            x.field(0, 1);
            Checks.same("P34 the minute", x.restore(), 15);
            Checks.isTrue("P34 all is as it was", due.equals(Checks.all(x)));
        }
    }

    /** Promise 35: "One more number waits: how many. FULL: 20 wait." */
    private static void p35() {
        FieldsTold x = four();
        for (int i = 1; i <= 20; i++) {
            Checks.same("P35 how many", x.tell(-i), i);
        }
        Checks.same("P35 one more", x.tell(0), Checks.FULL);
        Checks.same("P35 twenty", x.count(7), 20);
    }

    /**
     * Promise 36: "The numbers that wait (none do then) are what MOWERS of FIELDS 0, 1, .. SAY now (-1: none, or no
     * such FIELD): 0; else 1 and the place (from 0) of the first that isn't so."
     */
    private static void p36() {
        FieldsTold x = four();
        int[][] rows = {{1, 2, 3, 3}, {1, 2, 3, 3, -1, -1}, {1, 2}, {}, {1, 2, -1, -1}, {1, 2, 3, 1}, {0},
            {1, 2, 3, 3, -1, 3}};
        int[] due = {0, 0, 0, 0, 3, 4, 1, 6};
        for (int i = 0; i < rows.length; i++) {
            for (int v : rows[i]) {
                x.tell(v);
            }
            Checks.same("P36 row " + i, x.check(), due[i]);
            Checks.same("P36 none wait then", x.count(7), 0);
        }
        x.tell(1);
        x.tells(0, 0);
        Checks.same("P36 what it says now", x.check(), 1);
    }

    /**
     * Promise 37: "0 FIELDS, 1 MINUTE, 2 LOST, 3 how many FIELDS are nobody's, 4 PACE, 5 TELLINGS by all together, 6
     * bytes of THE TAPE, 7 numbers that wait, 8 BODIES in THE TRACE, 9 z (any number). BEYOND."
     */
    private static void p37() {
        FieldsTold x = four();
        x.pace(13);
        x.tells(0, 3);
        x.become(2, 11);
        x.tells(0, 2);
        Checks.feed(x, "n>2&t");
        x.tell(7);
        x.tell(7);
        x.tell(7);
        x.voice(3, 3, 10);
        x.seed(-1000000001);
        // field 2 is deaf now, and the echo behind says 1, that told it thrice; owner 2 took field 1 of owner 1
        int[] due = {4, 17, 1, 1, 13, 16, 5, 3, 7, -1000000001};
        for (int what = 0; what < 10; what++) {
            Checks.same("P37 count(" + what + ")", x.count(what), due[what]);
        }
        Checks.same("P37 no error", Edges.errorsOf(x), 0);
        Checks.same("P37 what 10", x.count(10), Checks.BEYOND);
    }

    /** Promise 38: "How many acts have answered an ERROR LOW - k (k 1 .. 5); BEYOND: another k (counted, too)." */
    private static void p38() {
        FieldsTold x = four();
        x.pace(0);
        x.odds(0, 5);
        x.needed(0, 2);
        x.sheet(0, 8, -8);
        x.as(0, 4);
        x.as(0, 5);
        x.as(0, 6);
        for (int i = 0; i < 24; i++) {
            x.tell(0);
        }
        int[] due = {2, 1, 1, 4, 3};
        for (int k = 1; k <= 5; k++) {
            Checks.same("P38 told(" + k + ")", x.told(k), due[k - 1]);
        }
        Checks.same("P38 told(6)", x.told(6), Checks.BEYOND);
        Checks.same("P38 told(0)", x.told(0), Checks.BEYOND);
        Checks.same("P38 counted, too", x.told(1), 4);
    }
}
