/** Terms, 3 and 4: each remark quotes sentences as a whole, its values worked out without the class. */
final class SentencesOfThoughtTest {
    private SentencesOfThoughtTest() {
    }

    public static void main(String[] args) {
        onlyThought();
        needed();
        neededIsWhatTellingsDo();
        theCoach();
        aRun();
        gain();
        byTurns();
        byTurnsOfThree();
        aSheet();
        one();
        fears();
        silence();
        odds();
        draws();
        twoDraws();
        voices();
        bodiesOfMowers();
        bodiesUnderMowers();
        bodiesUnderThose();
        bodiesOfKindsAbove();
        theTrace();
        sheets();
        Checks.end("SentencesOfThoughtTest");
    }

    private static FieldsTold road(String law, int... acres) {
        FieldsTold x = new FieldsTold();
        for (int a : acres) {
            x.field(0, a);
        }
        Checks.same("the law " + law, Checks.read(x, 0, law), 1);
        return x;
    }

    /**
     * Terms, 3: "(All this is only thought; MINUTE doesn't matter, and a tenth TELLING of an OWNER to a MOWER changes
     * nothing there.)"
     */
    private static void onlyThought() {
        FieldsTold x = road("n>1", 10, 20);
        Checks.tell(x, 0, 0, 9);
        Checks.tell(x, 1, 0, 8);
        Checks.tell(x, 2, 1, 1);
        Checks.row(x, 0, 8, 1, 2);
        for (int again = 0; again < 2; again++) {
            Checks.same("needed by its ninth", x.needed(1, 0), 0);
            Checks.same("needed by its tenth", x.needed(0, 0), Checks.NONE);
            Checks.same("gain by one telling", x.gain(2, 0), 30);
            Checks.same("a tenth takes nothing", x.turns(0, 1, 1), -10);
            Checks.same("a ninth and a first take nothing", x.turns(2, 1, 1), 10);
            Checks.same("a tenth, a ninth, and telling again", x.one(0, 1), 3);
            Checks.same("the first of them is a tenth", x.one(0, 0), 0);
            Checks.same("by any fears", x.fears(0, 1), 24);
            Checks.same("tellings", x.count(5), 18);
            Checks.same("the minute", x.count(1), 18);
            Checks.same("lost", x.count(2), 1);
            Checks.same("the last", x.ofField(0, 5), 1);
        }
    }

    /**
     * Terms, 3: "NEEDED of an OWNER for a FIELD: the least number (0 to 9) of TELLINGS more of that OWNER to its MOWER,
     * one behind the other, by which the FIELD is of that OWNER."
     */
    private static void needed() {
        FieldsTold x = road("n*2>t", 10);
        Checks.same("of one that nobody told", x.needed(3, 0), 1);
        Checks.tell(x, 0, 0, 4);
        Checks.same("more than half of all: n > 4 + n - n", x.needed(3, 0), 5);
        Checks.same("it is owner 0's", x.needed(0, 0), 0);
        Checks.tell(x, 3, 0, 1);
        Checks.same("four more", x.needed(3, 0), 4);
        Checks.same("one more of owner 0", x.needed(0, 0), 1);
        Checks.tell(x, 1, 0, 6);
        Checks.same("n > 10 by at most 9", x.needed(3, 0), Checks.NONE);
        Checks.same("n > 5 by 6", x.needed(1, 0), 0);
        x.become(0, 20);
        Checks.same("of a fearful one, by the fear of 3", x.needed(1, 0), Checks.NONE);
        x.fear(1, 8);
        Checks.same("of a fearful one, by a fear of 8", x.needed(1, 0), 0);
        x.become(0, 51);
        Checks.same("of a parrot: 6 of 13 would be said, 8 of 15 are more than half", x.needed(0, 0), 4);
        x.forgets(0);
        Checks.tell(x, 1, 0, 3);
        Checks.same("of a parrot: 4 are more than 3, and more than half of 7", x.needed(3, 0), 4);
        Checks.same("of a parrot: 3 of 6 would be said, 4 of 7 are more than half", x.needed(0, 0), 4);
    }

    private static void tellUpTo(FieldsTold x, int owner, int field) {
        int n = x.needed(owner, field);
        Checks.isTrue("owner " + owner + " can have field " + field, n >= 0 && n < 10);
        for (int i = 0; i < n; i++) {
            Checks.isTrue("not yet by " + i + " of " + n, x.ofField(field, 7) != owner);
            x.tells(owner, field);
        }
        Checks.same("by " + n, x.ofField(field, 7), owner);
        Checks.same("none is needed then", x.needed(owner, field), 0);
    }

    /** Terms, 3: "one behind the other, by which the FIELD is of that OWNER": told so often, and it is so. */
    private static void neededIsWhatTellingsDo() {
        for (String law : new String[] {"n>2", "n*2>t", "n%3=2", "n+f>5", "t%4=1&n>1", "n*n>t+f"}) {
            for (int km : new int[] {0, 27, 55, 54, 61}) {
                FieldsTold x = road(law, 10);
                x.become(0, km);
                Checks.tell(x, 3, 0, 1);
                tellUpTo(x, 3, 0);
                if (km == 0 && !law.startsWith("t")) {
                    tellUpTo(x, 1, 0);
                    tellUpTo(x, 2, 0);
                }
            }
        }
    }

    /**
     * Terms, 3: "THE COACH has a PACE (1 to 20 MINUTES; 4 at first): it is at FIELD i behind i and 1 times PACE, and
     * all DITCHES up to that one's."
     */
    private static void theCoach() {
        FieldsTold x = road("n>2", 1, 1, 1, 1);
        for (int i = 0; i < 4; i++) {
            Checks.same("by a pace of 4", x.coach(i), 4 * i + 4);
        }
        x.pace(7);
        x.set(0, 1, 1);
        x.set(2, 1, 3);
        x.set(3, 1, 9);
        int[] due = {8, 15, 25, 41};
        for (int i = 0; i < 4; i++) {
            Checks.same("by a pace of 7 and ditches", x.coach(i), due[i]);
        }
        Checks.same("a pace of 0", x.pace(0), Checks.BEYOND);
        Checks.same("a pace of 21", x.pace(21), Checks.BEYOND);
        Checks.same("a pace of 1", x.pace(1), 7);
        Checks.same("by a pace of 1", x.coach(3), 4 + 13);
    }

    /**
     * Terms, 3: "A RUN of an OWNER: a runner is at FIELD 0 in MINUTE 0 of the run, needs 1 MINUTE from a FIELD to the
     * next, and 1 for each TELLING; goes on only; of a set of FIELDS (each with what is NEEDED as it is now, not none)
     * behind the TELLINGS at FIELD i of the set it is MINUTE i and all that was NEEDED in FIELDS of the set up to that
     * one, which must be no later than THE COACH is there."
     */
    private static void aRun() {
        FieldsTold x = road("n>1", 5, 7, 9, 4);
        x.pace(2);
        x.set(0, 1, 1);
        x.set(3, 1, 2);
        // two tellings each; the coach is there at 3, 5, 7, 11: but two of the first three, at 2 and 5,
        // 2 and 6, 3 and 6
        Checks.same("fields 1, 2, 3", x.gain(1, 0), 20);
        Checks.same("fields 1, 2, 3", x.gain(1, 1), 14);
        x.set(0, 0, 8);
        Checks.same("fields 0, 2, 3", x.gain(1, 0), 21);
        Checks.same("fields 0, 2, 3", x.gain(1, 1), 13);
        x.set(1, 0, 10);
        Checks.same("fields 1, 2, 3 again", x.gain(1, 1), 14);
        x.tells(1, 0);
        Checks.same("one is needed in field 0: 1, 4, 7, 10", x.gain(1, 1), 15);
        Checks.same("the others' stay", x.gain(2, 1), 14);
        x.become(2, 11);
        Checks.same("field 2 can't be had", x.gain(2, 1), 11);
        x.set(0, 1, 0);
        x.set(3, 1, 0);
        Checks.same("the coach is there at 2, 4, 6, 8: fields 0 and 3 at 2 and 7", x.gain(2, 0), 14);
        x.pace(1);
        Checks.same("at 1, 2, 3, 4: none but what needs one", x.gain(2, 0), 0);
        Checks.same("at 1, 2, 3, 4: none but what needs one", x.gain(1, 1), 1);
    }

    /** Terms, 3: "GAIN: the most ACRES of such a set; of several the least set (as bits)." */
    private static void gain() {
        FieldsTold x = road("n>1", 7, 7, 9, 4);
        x.pace(2);
        x.set(0, 1, 1);
        x.set(3, 1, 2);
        Checks.same("fields 0, 2, 3 or 1, 2, 3", x.gain(1, 0), 20);
        Checks.same("the least of 13 and 14", x.gain(1, 1), 13);
        x.set(2, 0, 7);
        Checks.same("fields 0, 1, 3 or those two", x.gain(1, 0), 18);
        Checks.same("the least of 11, 13 and 14", x.gain(1, 1), 11);
        x.set(3, 0, 99);
        Checks.same("the last field and two more", x.gain(1, 0), 113);
        Checks.same("the last field and two more", x.gain(1, 1), 11);
    }

    /**
     * Terms, 3: "BY TURNS of two OWNERS, by n (0 to 4): the first one does a TELLING to one of the first 5 FIELDS (or
     * as many as there are), then the other one, and so on, n in all; each wants that ACRES of all FIELDS that are of
     * the first OWNER less those of the other one are most (the other: least) at the end: what they are then."
     */
    private static void byTurns() {
        FieldsTold x = road("n>0", 10, 3);
        // the one who tells last has both, or the other one keeps the 10
        int[] due = {0, 10, -7, 10, -7};
        for (int n = 0; n < 5; n++) {
            Checks.same("of 10 and 3 acres, by " + n, x.turns(0, 1, n), due[n]);
            Checks.same("of other owners", x.turns(3, 2, n), due[n]);
        }
        x.tells(1, 0);
        x.tells(0, 1);
        int[] then = {-7, 13, -7, 13, -7};
        for (int n = 0; n < 5; n++) {
            Checks.same("the other has the 10, by " + n, x.turns(0, 1, n), then[n]);
        }
        Checks.same("as they are, for the other", x.turns(1, 0, 0), 7);
        Checks.same("of two who have none", x.turns(2, 3, 0), 0);
        Checks.same("of one who has none", x.turns(2, 1, 0), -10);
        Checks.same("of one who has none", x.turns(2, 1, 1), 10);
    }

    /** Terms, 3: "each wants that ACRES .. are most (the other: least) at the end", of three FIELDS, and of six. */
    private static void byTurnsOfThree() {
        FieldsTold x = road("n>0", 5, 8, 6);
        int[] due = {0, 8, -5, 8, -5};
        for (int n = 0; n < 5; n++) {
            Checks.same("of 5, 8 and 6 acres, by " + n, x.turns(2, 0, n), due[n]);
        }
        FieldsTold y = road("n>0", 1, 1, 1, 1, 1, 90);
        Checks.same("the sixth field is told nothing", y.turns(0, 1, 3), 1);
        y.tells(1, 5);
        Checks.same("but it counts", y.turns(0, 1, 3), 1 - 90);
        y.become(5, 60);
        Checks.same("and so do echoes", y.turns(0, 1, 1), 1);
        Checks.read(y, 0, "1");
        Checks.same("and so do echoes", y.turns(0, 1, 1), 91);
        Checks.same("and so do echoes", y.turns(0, 1, 2), 1 - 91);
    }

    /** Terms, 3: "A SHEET tells what MOWERS of FIELDS 0, 1, .. SAY (-1: none), of all FIELDS just." */
    private static void aSheet() {
        FieldsTold x = road("n>2", 1, 1, 1);
        x.become(1, 20);
        Checks.tell(x, 3, 1, 1);
        x.become(2, 60);
        Checks.row(x, 0, 8, 0, 3, 3);
        Checks.same("by owner 0 to field 0", x.one(0, 0), 0);
        Checks.row(x, 0, 8, -1, 3, 3);
        Checks.same("as they say", x.fears(0, 1), 24);
        Checks.row(x, 0, 8, -1, 3);
        Checks.same("too few", x.fears(0, 1), Checks.NONE);
        Checks.same("too few", x.one(0, 1), Checks.NONE);
        Checks.row(x, 0, 8, -1, 3, 3, 3);
        Checks.same("too many", x.fears(0, 1), Checks.NONE);
        Checks.same("too many", x.one(0, 1), Checks.NONE);
        Checks.row(x, 0, 8, -1, 3, -1);
        Checks.same("the echo says so, too", x.fears(0, 1), Checks.NONE);
    }

    /**
     * Terms, 3: "ONE: TELLINGS, one alone, by which they would SAY so: the least of 10 times the OWNER and the FIELD;
     * how many."
     */
    private static void one() {
        FieldsTold x = road("n>2", 1, 1, 1);
        x.become(0, 20);
        x.become(1, 31);
        x.become(2, 55);
        Checks.tell(x, 2, 0, 1);
        Checks.tell(x, 3, 2, 1);
        Checks.tell(x, 1, 2, 1);
        // they say 2, none, 1: owners 0 to 2 to field 0 change nothing of that, and owners 1 and 2 to field 2
        Checks.row(x, 0, 8, 2, -1, 1);
        Checks.same("how many leave it so", x.one(0, 1), 5);
        Checks.same("the least", x.one(0, 0), 0);
        Checks.row(x, 0, 8, 2, -1, 3);
        Checks.same("a second of owner 3 to the parrot", x.one(0, 0), 32);
        Checks.same("that alone", x.one(0, 1), 1);
        Checks.row(x, 0, 8, 3, -1, 1);
        Checks.same("of owner 3 to the fearful one", x.one(0, 0), 30);
        Checks.row(x, 0, 8, 2, 0, 1);
        Checks.same("of owner 0 to the loyal one", x.one(0, 0), 1);
        Checks.row(x, 0, 8, 3, 0, 1);
        Checks.same("two are no one", x.one(0, 0), Checks.NONE);
    }

    /**
     * Terms, 3: "FEARS: of all ways in which OWNERS 0 to 3 have the FEARS 0, 1, 2, 3, each once, those by which they
     * would SAY so: the first (as a row, by OWNERS; told as four digits), how many."
     */
    private static void fears() {
        FieldsTold x = road("n>2", 1, 1, 1);
        Checks.tell(x, 0, 0, 1);
        Checks.tell(x, 3, 0, 1);
        Checks.tell(x, 1, 1, 1);
        Checks.tell(x, 2, 1, 1);
        Checks.tell(x, 2, 2, 1);
        x.become(0, 20);
        x.become(1, 54);
        x.become(2, 30);
        int[][] rows = {{0, 2, 2}, {3, 1, 2}, {3, 2, 2}, {0, 1, 2}};
        int[] first = {1230, 213, 123, 1320};
        for (int i = 0; i < rows.length; i++) {
            Checks.row(x, 0, 16, rows[i]);
            Checks.same("the first of row " + i, x.fears(0, 0), first[i]);
            Checks.same("how many of row " + i, x.fears(0, 1), 6);
        }
        Checks.tell(x, 2, 0, 1);
        Checks.row(x, 0, 16, 0, 2, 2);
        Checks.same("0 above 3 and 2, 2 above 1", x.fears(0, 0), 3012);
        Checks.same("0 above 3 and 2, 2 above 1", x.fears(0, 1), 3);
        Checks.row(x, 0, 16, 0, 2, 1);
        Checks.same("the loyal one says 2 by all", x.fears(0, 0), Checks.NONE);
    }

    /**
     * Terms, 3: "SILENCE of a FIELD: ACRES of all that are of an OWNER as they are, less those, if the MOWER of this
     * FIELD (and so each ECHO behind it) SAYS none."
     */
    private static void silence() {
        FieldsTold x = road("n>1", 10, 20, 30, 40, 50);
        x.become(1, 65);
        x.become(2, 67);
        x.become(4, 69);
        for (int i = 0; i < 5; i++) {
            Checks.tell(x, 1, i, 2);
        }
        Checks.same("all are owner 1's", x.ofOwner(1, 2), 150);
        int[] due = {60, 50, 30, 90, 50};
        for (int i = 0; i < 5; i++) {
            Checks.same("silence of field " + i, x.silence(i, 1), due[i]);
            Checks.same("silence of field " + i + " to another", x.silence(i, 2), 0);
        }
        Checks.tell(x, 2, 3, 2);
        Checks.same("of one with no title to the echo behind", x.silence(3, 2), 40);
        Checks.same("of one that is nobody's", x.silence(4, 1), 0);
        Checks.same("of one that is nobody's", x.silence(4, 2), 0);
        Checks.same("it is only thought", x.ofOwner(1, 2), 60);
    }

    /**
     * Terms, 3: "ODDS of an OWNER: each MOWER errs by m of 16 by itself; that none of those errs whose FIELDS are of
     * that OWNER (1, without any): a fraction in lowest terms."
     */
    private static void odds() {
        FieldsTold x = new FieldsTold();
        int[] ms = {3, 6, 5, 9};
        int[] owners = {1, 1, 2, 0};
        for (int i = 0; i < 4; i++) {
            x.field(ms[i], 10);
            Checks.tell(x, owners[i], i, i == 3 ? 2 : 3);
        }
        long[] above = {1, 65, 11, 1};
        long[] below = {1, 128, 16, 1};
        for (int owner = 0; owner < 4; owner++) {
            Checks.same("owner " + owner + ", above", x.odds(owner, 0), above[owner]);
            Checks.same("owner " + owner + ", below", x.odds(owner, 1), below[owner]);
        }
        x.tells(0, 3);
        Checks.same("7 of 16", x.odds(0, 0), 7);
        Checks.same("7 of 16", x.odds(0, 1), 16);
    }

    /**
     * Terms, 3: "TELLINGS by draws: z is told (1 at first); each makes it z * 1103515245 + 12345 (an int), and gives z
     * >>> 8."
     */
    private static void draws() {
        FieldsTold x = road("n>2", 1);
        int[] due = {-1770082073, -999580867, -1778682749, -1661227463, 267834847, 836760821};
        Checks.same("z at first", x.count(9), 1);
        for (int z : due) {
            x.loose(1);
            Checks.same("z behind two draws", x.count(9), z);
        }
        Checks.same("z is told", x.seed(-1770082073), 836760821);
        x.loose(2);
        Checks.same("z behind four draws", x.count(9), -1778682749);
    }

    /** Terms, 3: "For each TELLING two draws: the rest by 4 is the OWNER, that by the number of FIELDS the FIELD." */
    private static void twoDraws() {
        FieldsTold x = new FieldsTold();
        for (int i = 0; i < 10; i++) {
            x.field(0, 1);
        }
        int[] owners = {2, 0, 3, 2, 0, 2};
        int[] fields = {2, 3, 6, 6, 9, 6};
        int[][] told = new int[10][4];
        for (int i = 0; i < 6; i++) {
            Checks.same("one by draws", x.loose(1), 1);
            told[fields[i]][owners[i]]++;
            Checks.same("its field's last", x.ofField(fields[i], 5), owners[i]);
            for (int k = 0; k < 40; k++) {
                Checks.same("tellings by " + i, x.tellings(k / 4, k % 4), told[k / 4][k % 4]);
            }
        }
        FieldsTold y = Edges.road(0, 7);
        Checks.same("six at once", y.loose(6), 6);
        int[] of7 = {0, 0, 1, 0, 0, 0, 0, 0, 2, 0, 1, 0, 0, 0, 0, 0, 0, 0, 0, 1, 0, 0, 0, 0, 0, 0, 1, 0};
        for (int k = 0; k < 28; k++) {
            Checks.same("field " + k / 4 + " of seven by owner " + k % 4, y.tellings(k / 4, k % 4), of7[k]);
        }
        Checks.same("six in all", y.count(5), 6);
    }

    /** The seventh kind's mower in field 2 with m 5, as all that speak here, by x 7. */
    private static void voice(int kind, int act, int due, int... trace) {
        FieldsTold x = Edges.road(0, 3);
        x.become(2, 10 * kind + 5);
        String what = "kind " + kind + ", act " + act;
        Checks.same(what, x.voice(2, act, 7), due);
        Checks.same("bodies of " + what, x.count(8), trace.length);
        for (int i = 0; i < trace.length; i++) {
            Checks.same("body " + i + " of " + what, x.trace(i), trace[i]);
        }
    }

    /**
     * Terms, 3: "VOICES of a MOWER, with a number x (ints that go round); n is the number of its FIELD, m as told: 0
     * hears, 1 says, 2 fears, 3 tells."
     */
    private static void voices() {
        FieldsTold x = Edges.road(8, 10);
        Checks.same("0 hears, n is 9", x.voice(9, 0, 100), 109);
        Checks.same("1 says, n is 9", x.voice(9, 1, 100), 218);
        Checks.same("2 fears, m is 8", x.voice(9, 2, 100), 92);
        Checks.same("3 tells", x.voice(9, 3, 100), 218 ^ 92);
        Checks.same("n is 4", x.voice(4, 0, 100), 104);
        x.become(4, 3);
        Checks.same("m is 3", x.voice(4, 2, 100), 97);
        Checks.same("ints go round", x.voice(4, 0, 2147483647), -2147483645);
        Checks.same("ints go round", x.voice(4, 1, 2147483647), 6);
        Checks.same("ints go round", x.voice(4, 2, -2147483647), 2147483646);
    }

    /**
     * Terms, 3: "BODIES: MOWER: 10 hears: x + n. 11 says: hears(x) * 2. 12 fears: x - m. 13 tells: says(x) ^ fears(x)."
     */
    private static void bodiesOfMowers() {
        voice(0, 0, 9, 10);
        voice(0, 1, 18, 11, 10);
        voice(0, 2, 2, 12);
        voice(0, 3, 16, 13, 11, 10, 12);
    }

    /**
     * Terms, 3: "DEAF: 20 hears: super.hears(x) * 3. FEARFUL: 30 fears: -super.fears(x). LOYAL: 40 says: super.says(x)
     * - fears(1)."
     */
    private static void bodiesUnderMowers() {
        voice(1, 0, 27, 20, 10);
        voice(1, 1, 54, 11, 20, 10);
        voice(1, 2, 2, 12);
        voice(1, 3, 52, 13, 11, 20, 10, 12);
        voice(2, 0, 9, 10);
        voice(2, 1, 18, 11, 10);
        voice(2, 2, -2, 30, 12);
        voice(2, 3, -20, 13, 11, 10, 30, 12);
        voice(3, 0, 9, 10);
        voice(3, 1, 22, 40, 11, 10, 12);
        voice(3, 2, 2, 12);
        voice(3, 3, 20, 13, 40, 11, 10, 12, 12);
    }

    /**
     * Terms, 3: "SILENT: 50 tells: super.tells(x) - hears(2). PARROT: 60 fears: super.fears(x) ^ n. 61 tells: says(x) -
     * super.tells(x). ECHO: 70 says: super.says(x + 1)."
     */
    private static void bodiesUnderThose() {
        voice(4, 0, 27, 20, 10);
        voice(4, 1, 54, 11, 20, 10);
        voice(4, 2, 2, 12);
        voice(4, 3, 40, 50, 13, 11, 20, 10, 12, 20, 10);
        voice(5, 0, 9, 10);
        voice(5, 1, 18, 11, 10);
        voice(5, 2, -4, 60, 30, 12);
        voice(5, 3, 36, 61, 11, 10, 13, 11, 10, 60, 30, 12);
        voice(6, 0, 9, 10);
        voice(6, 1, 24, 70, 40, 11, 10, 12);
        voice(6, 2, 2, 12);
        voice(6, 3, 26, 13, 70, 40, 11, 10, 12, 12);
    }

    /**
     * Terms, 3: "hears(..) is the BODY of its KIND, or of the next KIND above that has one; super.hears(..) that from
     * the KIND above the BODY's on."
     */
    private static void bodiesOfKindsAbove() {
        FieldsTold x = Edges.road(45, 1);
        x.voice(0, 0, 1);
        Checks.same("a silent one hears as a deaf one", x.trace(0), 20);
        Checks.same("super.hears of a deaf one's is a mower's", x.trace(1), 10);
        x.voice(0, 3, 1);
        Checks.same("a silent one tells by itself", x.trace(0), 50);
        Checks.same("super.tells is a mower's: a deaf one has none", x.trace(1), 13);
        Checks.same("its says is a mower's", x.trace(2), 11);
        Checks.same("that one's hears is its own kind's again", x.trace(3), 20);
        x.become(0, 55);
        x.voice(0, 2, 1);
        Checks.same("a parrot fears by itself", x.trace(0), 60);
        Checks.same("super.fears is a fearful one's", x.trace(1), 30);
        Checks.same("super.fears of that one is a mower's", x.trace(2), 12);
        x.become(0, 65);
        x.voice(0, 1, 1);
        Checks.same("an echo says by itself", x.trace(0), 70);
        Checks.same("super.says is a loyal one's", x.trace(1), 40);
        Checks.same("super.says of that one is a mower's", x.trace(2), 11);
    }

    /**
     * Terms, 3: "THE TRACE: the numbers of BODIES of the latest voice(), as they began (what stands left is worked out
     * first), the first 40."
     */
    private static void theTrace() {
        FieldsTold x = Edges.road(55, 1);
        Checks.same("none at first", x.count(8), 0);
        x.voice(0, 3, 1);
        int[] due = {61, 11, 10, 13, 11, 10, 60, 30, 12};
        for (int i = 0; i < due.length; i++) {
            Checks.same("says(x) ahead of super.tells(x), body " + i, x.trace(i), due[i]);
        }
        Checks.same("none behind", x.trace(9), Checks.NONE);
        x.become(0, 35);
        x.voice(0, 1, 1);
        int[] then = {40, 11, 10, 12};
        for (int i = 0; i < then.length; i++) {
            Checks.same("super.says(x) ahead of fears(1), body " + i, x.trace(i), then[i]);
        }
        Checks.same("of the latest voice", x.count(8), 4);
        Checks.same("none at 40", x.trace(40), Checks.NONE);
    }

    /** Terms, 4: "SHEETS 0 .. 3 are rows of 8, 16, 32 bits, at most 40 numbers, or missing (as at first)." */
    private static void sheets() {
        FieldsTold x = Edges.road(0, 1);
        int[] bits = {8, 16, 32, 8};
        for (int sheet = 0; sheet < 4; sheet++) {
            Checks.same("missing at first", x.put(sheet, 0, 1), Checks.NONE);
            Checks.same("a row", x.sheet(sheet, bits[sheet], 40), 1);
            Checks.same("its last number", x.put(sheet, 39, 1), 1);
            Checks.same("a row of 41", x.sheet(sheet, bits[sheet], 41), Checks.BEYOND);
        }
        Checks.same("sheet 4", x.sheet(4, 8, 1), Checks.BEYOND);
        Checks.same("64 bits", x.sheet(0, 64, 1), Checks.BEYOND);
        int[] v = {256 + 9, 65536 + 9, 9, -247};
        for (int sheet = 0; sheet < 4; sheet++) {
            x.put(sheet, 0, v[sheet]);
            x.put(sheet, 1, 0);
            Checks.same("its number as acres", x.acres(sheet), 1);
            Checks.same("its number as acres", x.set(0, 0, 1), 9);
        }
    }
}
