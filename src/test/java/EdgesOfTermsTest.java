/** The edges that the Terms name under ERRORS and 1: fields, mowers, owners, what they say, titles, tellings. */
final class EdgesOfTermsTest {
    private EdgesOfTermsTest() {
    }

    public static void main(String[] args) {
        errorsHaveTheirNumbers();
        anErrorOfALongIsOne();
        acresAre1To99();
        ditchesAre0To9();
        kindsAre0To6();
        numbersAre0To9();
        ownersAre0To3();
        fearsAre0To9();
        tellingsAre9AtMost();
        firstAndLastAreNoneAtFirst();
        mowerSaysTheLast();
        deafSaysTheRestBy4();
        loyalSaysTheFirst();
        fearfulSaysOfSeveralTheLeast();
        fearfulSaysOneThatToldIt();
        parrotByEvenAndOdd();
        echoSaysWhatTheFieldAheadSays();
        echoInField0IsAsLoyal();
        silentSaysBelowM();
        hearsByKinds();
        titleIsWhatIsNot0();
        saidWithoutTitleIsNobodys();
        lostIsWhatWasSomebodys();
        lostIsByTellingsAlone();
        lostIsCountedOverAllFields();
        lostIs9999AtMost();
        tellingThatIsNotHeard();
        theFirstStays();
        minuteIs9999AtMost();
        answers512Calls();
        Checks.end("EdgesOfTermsTest");
    }

    /** Terms, ERRORS: "LOW is -1000000000; LOW - 1 BEYOND, LOW - 2 NONE, LOW - 3 STATE, LOW - 4 FULL, LOW - 5 KIND". */
    private static void errorsHaveTheirNumbers() {
        FieldsTold x = new FieldsTold();
        Checks.same("BEYOND is LOW - 1", x.coach(0), -1000000001);
        Checks.same("NONE is LOW - 2", x.restore(), -1000000002);
        Checks.same("STATE is LOW - 3", x.loose(1), -1000000003);
        for (int i = 0; i < 20; i++) {
            x.tell(0);
        }
        Checks.same("FULL is LOW - 4", x.tell(0), -1000000004);
        x.field(0, 1);
        Checks.same("KIND is LOW - 5", x.as(0, 6), -1000000005);
    }

    /** Terms, ERRORS: "(in longs, too)". */
    private static void anErrorOfALongIsOne() {
        FieldsTold x = new FieldsTold();
        Checks.same("BEYOND as a long", x.odds(4, 0), -1000000001L);
        Checks.same("BEYOND as a long", x.odds(0, 2), -1000000001L);
        Checks.same("both are counted", x.told(1), 2);
    }

    /** Terms, 1: "each with ACRES (1 to 99)". */
    private static void acresAre1To99() {
        FieldsTold x = new FieldsTold();
        Checks.same("a field of 1 acre", x.field(0, 1), 0);
        Checks.same("a field of 99 acres", x.field(0, 99), 1);
        Checks.same("a field of 0 acres", x.field(0, 0), Checks.BEYOND);
        Checks.same("a field of 100 acres", x.field(0, 100), Checks.BEYOND);
        Checks.same("1 acre", x.ofField(0, 2), 1);
        Checks.same("99 acres", x.ofField(1, 2), 99);
        Checks.same("fields", x.count(0), 2);
    }

    /** Terms, 1: "a DITCH ahead of it (0 to 9 MINUTES; 0 at first)". */
    private static void ditchesAre0To9() {
        FieldsTold x = Edges.tenFields();
        for (int i = 0; i < 10; i++) {
            Checks.same("a ditch at first", x.ofField(i, 3), 0);
        }
        Checks.same("a ditch of 9", x.set(9, 1, 9), 0);
        Checks.same("a ditch of 10", x.set(9, 1, 10), Checks.BEYOND);
        Checks.same("a ditch of -1", x.set(9, 1, -1), Checks.BEYOND);
        Checks.same("a ditch of 9 stays", x.ofField(9, 3), 9);
        Checks.same("a ditch of 0", x.set(9, 1, 0), 9);
        Checks.same("a ditch of 0", x.ofField(9, 3), 0);
    }

    /** Terms, 1: "a MOWER of KINDS: 0 MOWER; 1 .. 6 ECHO". */
    private static void kindsAre0To6() {
        FieldsTold x = Edges.tenFields();
        Checks.same("the greatest kind", x.become(0, 60), 0);
        Checks.same("the greatest kind", x.ofField(0, 0), 6);
        Checks.same("a kind 7", x.become(0, 70), Checks.BEYOND);
        Checks.same("a kind -1", x.become(0, -10), Checks.BEYOND);
        Checks.same("the least kind", x.become(0, 0), 6);
        Checks.same("the least kind", x.ofField(0, 0), 0);
    }

    /** Terms, 1: "with a number m (0 to 9)", and promise 2: "10 times the KIND, and m". */
    private static void numbersAre0To9() {
        FieldsTold x = Edges.road(0, 1);
        for (int km = 0; km < 70; km++) {
            x.become(0, km);
            Checks.same("the kind of " + km, x.ofField(0, 0), km / 10);
            Checks.same("m of " + km, x.ofField(0, 1), km - 10 * (km / 10));
        }
    }

    /** Terms, 1: "OWNERS are 0 to 3". */
    private static void ownersAre0To3() {
        FieldsTold x = Edges.road(0, 1);
        Checks.same("owner -1", x.tells(-1, 0), Checks.BEYOND);
        Checks.same("owner 4", x.tells(4, 0), Checks.BEYOND);
        Checks.same("tellings", x.ofField(0, 9), 0);
        Checks.same("owner 0", x.tells(0, 0), -1);
        Checks.same("owner 0", x.ofField(0, 6), 0);
        Checks.same("owner 3", x.tells(3, 0), -1);
        Checks.same("owner 3", x.ofField(0, 6), 3);
    }

    /** Terms, 1: "each with a FEAR (0 to 9; at first 0, 1, 2, 3)". */
    private static void fearsAre0To9() {
        FieldsTold x = new FieldsTold();
        for (int owner = 0; owner < 4; owner++) {
            Checks.same("fear at first", x.ofOwner(owner, 0), owner);
        }
        Checks.same("a fear of 9", x.fear(3, 9), 3);
        Checks.same("a fear of 10", x.fear(3, 10), Checks.BEYOND);
        Checks.same("a fear of -1", x.fear(3, -1), Checks.BEYOND);
        Checks.same("a fear of 9 stays", x.ofOwner(3, 0), 9);
        Checks.same("a fear of 0", x.fear(3, 0), 9);
        Checks.same("a fear of 0", x.ofOwner(3, 0), 0);
    }

    /** Terms, 1: "(TELLINGS; 0 at first; 9 at most each)". */
    private static void tellingsAre9AtMost() {
        FieldsTold x = Edges.road(0, 1);
        for (int owner = 0; owner < 4; owner++) {
            Checks.same("tellings at first", x.tellings(0, owner), 0);
            Checks.tell(x, owner, 0, 8);
            Checks.same("eight", x.tellings(0, owner), 8);
            Checks.same("the ninth", x.tells(owner, 0), owner);
            Checks.same("the tenth", x.tells(owner, 0), Checks.STATE);
            Checks.same("nine at most", x.tellings(0, owner), 9);
        }
        Checks.same("9 of each", x.ofField(0, 9), 36);
    }

    /** Terms, 1: "it knows the FIRST and the LAST OWNER that told it (none at first)". */
    private static void firstAndLastAreNoneAtFirst() {
        FieldsTold x = Edges.road(0, 1);
        Checks.same("the first at first", x.ofField(0, 4), -1);
        Checks.same("the last at first", x.ofField(0, 5), -1);
        x.tells(0, 0);
        Checks.same("owner 0 is the first", x.ofField(0, 4), 0);
        Checks.same("owner 0 is the last", x.ofField(0, 5), 0);
        x.tells(3, 0);
        Checks.same("the first", x.ofField(0, 4), 0);
        Checks.same("the last", x.ofField(0, 5), 3);
    }

    private static void says(String sentence, FieldsTold x, int field, int km, int due) {
        x.become(field, km);
        Checks.same(sentence + " (km " + km + ", field " + field + ")", x.ofField(field, 6), due);
    }

    /** Terms, SAYS: "MOWER: the LAST", and none, if there is none. */
    private static void mowerSaysTheLast() {
        FieldsTold x = Edges.road(0, 1);
        says("MOWER: none told it", x, 0, 0, -1);
        x.tells(3, 0);
        x.tells(0, 0);
        says("MOWER: the last", x, 0, 0, 0);
        says("MOWER: the last", x, 0, 9, 0);
        x.forgets(0);
        says("MOWER: none told it", x, 0, 0, -1);
    }

    /** Terms, SAYS: "DEAF: the one of the rest of m by 4", told or not. */
    private static void deafSaysTheRestBy4() {
        FieldsTold x = Edges.road(0, 1);
        int[] due = {0, 1, 2, 3, 0, 1, 2, 3, 0, 1};
        for (int m = 0; m < 10; m++) {
            says("DEAF: the rest of m by 4", x, 0, 10 + m, due[m]);
        }
        x.become(0, 0);
        x.tells(3, 0);
        says("DEAF: what it was told doesn't matter", x, 0, 14, 0);
    }

    /** Terms, SAYS: "LOYAL: the FIRST", and none, if there is none. */
    private static void loyalSaysTheFirst() {
        FieldsTold x = Edges.road(0, 1);
        says("LOYAL: none told it", x, 0, 30, -1);
        x.tells(0, 0);
        x.tells(3, 0);
        x.tells(3, 0);
        says("LOYAL: the first", x, 0, 30, 0);
        says("LOYAL: the first", x, 0, 39, 0);
        x.forgets(0);
        says("LOYAL: none told it", x, 0, 39, -1);
        x.tells(3, 0);
        says("LOYAL: the first behind forgetting", x, 0, 30, 3);
    }

    /** Terms, SAYS: "FEARFUL: .. the one with the greatest FEAR, of several the least". */
    private static void fearfulSaysOfSeveralTheLeast() {
        FieldsTold x = Edges.road(20, 1);
        for (int owner = 3; owner >= 0; owner--) {
            x.tells(owner, 0);
        }
        Checks.same("FEARFUL: the greatest fear", x.ofField(0, 6), 3);
        x.fear(2, 3);
        Checks.same("FEARFUL: of 2 and 3 the least", x.ofField(0, 6), 2);
        x.fear(1, 3);
        Checks.same("FEARFUL: of 1, 2 and 3 the least", x.ofField(0, 6), 1);
        x.fear(0, 3);
        Checks.same("FEARFUL: of all the least", x.ofField(0, 6), 0);
        x.fear(3, 4);
        Checks.same("FEARFUL: by one more fear", x.ofField(0, 6), 3);
    }

    /** Terms, SAYS: "FEARFUL: of those that told it", and none, if none did; a FEAR of 0 is one. */
    private static void fearfulSaysOneThatToldIt() {
        FieldsTold x = Edges.road(20, 1);
        Checks.same("FEARFUL: none told it", x.ofField(0, 6), -1);
        x.tells(0, 0);
        Checks.same("FEARFUL: by a fear of 0", x.ofField(0, 6), 0);
        Checks.tell(x, 1, 0, 1);
        Checks.same("FEARFUL: owners 2 and 3 didn't tell it", x.ofField(0, 6), 1);
        x.forgets(0);
        Checks.same("FEARFUL: none told it", x.ofField(0, 6), -1);
    }

    /** Terms, SAYS: "PARROT: as FEARFUL, if m is even; else .. most TELLINGS, of several the least". */
    private static void parrotByEvenAndOdd() {
        FieldsTold x = Edges.road(0, 1);
        says("PARROT: none told it", x, 0, 50, -1);
        says("PARROT: none told it", x, 0, 51, -1);
        Checks.tell(x, 2, 0, 2);
        Checks.tell(x, 1, 0, 2);
        Checks.tell(x, 3, 0, 1);
        for (int m = 0; m < 10; m++) {
            boolean isEven = m == 0 || m == 2 || m == 4 || m == 6 || m == 8;
            says("PARROT: as fearful, or most tellings, of several the least", x, 0, 50 + m, isEven ? 3 : 1);
        }
        x.tells(2, 0);
        says("PARROT: by one telling more", x, 0, 59, 2);
        x.forgets(0);
        x.fear(3, 0);
        x.tells(3, 0);
        says("PARROT: one telling is most", x, 0, 51, 3);
        says("PARROT: a fear of 0 is one", x, 0, 58, 3);
    }

    /** Terms, SAYS: "ECHO: what the MOWER of the FIELD ahead (the number 1 less) SAYS", along the whole road. */
    private static void echoSaysWhatTheFieldAheadSays() {
        FieldsTold x = Edges.road(61, 10);
        x.become(0, 0);
        x.tells(1, 5);
        for (int i = 0; i < 10; i++) {
            Checks.same("ECHO: the field ahead says none", x.ofField(i, 6), -1);
        }
        x.tells(3, 0);
        for (int i = 1; i < 10; i++) {
            Checks.same("ECHO: as the field ahead, up to the first", x.ofField(i, 6), 3);
        }
        x.become(5, 12);
        Checks.same("ECHO: ahead of a deaf one", x.ofField(4, 6), 3);
        Checks.same("ECHO: behind a deaf one", x.ofField(6, 6), 2);
        Checks.same("ECHO: the last behind a deaf one", x.ofField(9, 6), 2);
    }

    /** Terms, SAYS: "ECHO: .. in FIELD 0 as LOYAL", and in FIELD 1 not. */
    private static void echoInField0IsAsLoyal() {
        FieldsTold x = Edges.road(61, 2);
        Checks.same("ECHO in field 0: none told it", x.ofField(0, 6), -1);
        x.tells(2, 0);
        x.tells(3, 0);
        x.tells(1, 1);
        Checks.same("ECHO in field 0: the first", x.ofField(0, 6), 2);
        Checks.same("ECHO in field 1: not its own first", x.ofField(1, 6), 2);
        Checks.same("its first", x.ofField(1, 4), 1);
    }

    /** Terms, SAYS: "SILENT: as DEAF, if the number of its FIELD is below m; else none". */
    private static void silentSaysBelowM() {
        FieldsTold x = Edges.road(0, 10);
        int[] rest = {0, 1, 2, 3, 0, 1, 2, 3, 0, 1};
        for (int m = 0; m < 10; m++) {
            for (int field = 0; field < 10; field++) {
                says("SILENT: below m", x, field, 40 + m, field < m ? rest[m] : -1);
            }
        }
    }

    /** Terms, HEARS: "MOWER: yes. DEAF: no. ECHO: if m is odd", and those under them likewise. */
    private static void hearsByKinds() {
        FieldsTold x = Edges.road(0, 1);
        for (int km = 0; km < 70; km++) {
            int kind = km / 10;
            boolean isOdd = km % 10 == 1 || km % 10 == 3 || km % 10 == 5 || km % 10 == 7 || km % 10 == 9;
            boolean hears = kind == 0 || kind == 2 || kind == 3 || kind == 5 || kind == 6 && isOdd;
            x.become(0, km);
            x.forgets(0);
            x.tells(2, 0);
            Checks.same("HEARS, km " + km, x.tellings(0, 2), hears ? 1 : 0);
            Checks.same("the last, km " + km, x.ofField(0, 5), hears ? 2 : -1);
            Checks.same("the minute, km " + km, x.count(1), km + 1);
        }
    }

    /** Terms, TITLE: "if the TEXT gives what isn't 0": -1, 1 and the least int are such, too. */
    private static void titleIsWhatIsNot0() {
        String[] texts = {"0", "1", "0-1", "f-5", "f-4", "f-6", "4096*4096*128", "4096*4096*256", "n-n", "0*9999"};
        int[] due = {-1, 2, 2, -1, 2, 2, 2, -1, -1, -1};
        FieldsTold x = Edges.road(0, 1);
        x.fear(2, 5);
        x.tells(2, 0);
        for (int i = 0; i < texts.length; i++) {
            Checks.same("TITLE by " + texts[i], Checks.read(x, 0, texts[i]), 1);
            Checks.same("TITLE by " + texts[i], x.ofField(0, 7), due[i]);
        }
    }

    /** Terms, TITLE: "of the OWNER that its MOWER SAYS, if that one has the TITLE; else of nobody". */
    private static void saidWithoutTitleIsNobodys() {
        FieldsTold x = Edges.road(0, 1);
        Checks.tell(x, 0, 0, 3);
        Checks.same("said, with the title", x.ofField(0, 7), 0);
        Checks.tell(x, 1, 0, 2);
        Checks.same("said, but without the title; another one has it", x.ofField(0, 7), -1);
        x.tells(1, 0);
        Checks.same("said, with the title", x.ofField(0, 7), 1);
        Checks.same("a text by which all have the title", Checks.read(x, 0, "1"), 1);
        x.forgets(0);
        Checks.same("none is said", x.ofField(0, 7), -1);
        x.become(0, 13);
        Checks.same("said, but never told", x.ofField(0, 7), 3);
    }

    /** Terms, LOST: "came to be of another one, or of nobody, that was somebody's (0 at first)". */
    private static void lostIsWhatWasSomebodys() {
        FieldsTold x = Edges.road(0, 1);
        Checks.same("LOST at first", x.count(2), 0);
        Checks.tell(x, 0, 0, 2);
        Checks.same("LOST: it stays nobody's", x.count(2), 0);
        x.tells(0, 0);
        Checks.same("LOST: nobody's comes to be somebody's", x.count(2), 0);
        x.tells(0, 0);
        Checks.same("LOST: it stays the same one's", x.count(2), 0);
        x.tells(1, 0);
        Checks.same("LOST: it comes to be nobody's", x.count(2), 1);
        Checks.tell(x, 1, 0, 2);
        Checks.same("LOST: nobody's comes to be another's", x.count(2), 1);
        x.tells(0, 0);
        Checks.same("LOST: it comes to be another's", x.count(2), 2);
    }

    /** Terms, LOST: "how often a FIELD by a telling came to be": nothing else loses one. */
    private static void lostIsByTellingsAlone() {
        FieldsTold x = Edges.road(0, 1);
        Checks.tell(x, 0, 0, 3);
        x.image();
        x.become(0, 13);
        x.become(0, 0);
        x.fear(0, 9);
        Checks.read(x, 0, "f<9");
        Checks.same("nobody's by a text", x.ofField(0, 7), -1);
        Checks.read(x, 0, "n>2");
        x.forgets(0);
        x.restore();
        Checks.same("somebody's again", x.ofField(0, 7), 0);
        Checks.same("LOST by no telling", x.count(2), 0);
        x.become(0, 10);
        Checks.read(x, 0, "1");
        x.tells(2, 0);
        Checks.same("LOST by a telling that isn't heard", x.count(2), 0);
    }

    /** Terms, TELLING: "(LOST is counted over all FIELDS by what they were ahead of it.)". */
    private static void lostIsCountedOverAllFields() {
        FieldsTold x = Edges.road(60, 10);
        x.become(0, 0);
        Checks.read(x, 0, "1");
        x.tells(0, 0);
        Checks.same("LOST: all were nobody's", x.count(2), 0);
        Checks.same("all are owner 0's", x.ofOwner(0, 1), 10);
        x.tells(1, 0);
        Checks.same("LOST: all ten", x.count(2), 10);
        x.tells(1, 0);
        Checks.same("LOST: none more", x.count(2), 10);
        x.become(9, 10);
        x.tells(2, 0);
        Checks.same("LOST: nine more", x.count(2), 19);
    }

    /** Terms, LOST: "9999 at most". */
    private static void lostIs9999AtMost() {
        FieldsTold x = Edges.road(60, 10);
        x.become(0, 0);
        Checks.read(x, 0, "1");
        // By this seed 26 of 100 draws tell field 0, and 25 of them another owner than the one ahead.
        for (int i = 1; i <= 39; i++) {
            x.seed(8451251);
            x.forgets(0);
            x.loose(100);
            Checks.same("LOST: all ten, 25 times more", x.count(2), 250 * i);
        }
        x.forgets(0);
        for (int i = 0; i < 24; i++) {
            x.tells(i % 4, 0);
        }
        Checks.same("LOST", x.count(2), 9750 + 230);
        x.become(9, 10);
        x.tells(0, 0);
        Checks.same("LOST: nine more", x.count(2), 9989);
        x.become(9, 60);
        x.tells(1, 0);
        Checks.same("LOST: 9999 just", x.count(2), 9999);
        Checks.same("a telling all the same", x.tells(2, 0), 2);
        Checks.same("LOST: 9999 at most", x.count(2), 9999);
        x.image();
        x.restore();
        Checks.same("LOST: 9999 in an image, too", x.count(2), 9999);
    }

    /** Terms, TELLING: "if the MOWER HEARS: .. MINUTE (0 to 9999; 0 at first) is 1 more", heard or not. */
    private static void tellingThatIsNotHeard() {
        FieldsTold x = Edges.road(12, 1);
        Checks.same("the minute at first", x.count(1), 0);
        for (int i = 1; i <= 12; i++) {
            Checks.same("a telling that isn't heard", x.tells(1, 0), -1);
            Checks.same("is a minute", x.count(1), i);
        }
        Checks.same("but no telling", x.ofField(0, 9), 0);
        Checks.same("no first", x.ofField(0, 4), -1);
        Checks.same("no last", x.ofField(0, 5), -1);
    }

    /** Terms, TELLING: "it is the LAST, and the FIRST, if there was none". */
    private static void theFirstStays() {
        FieldsTold x = Edges.road(0, 1);
        for (int owner = 0; owner < 4; owner++) {
            x.tells(owner, 0);
            Checks.same("the first stays", x.ofField(0, 4), 0);
            Checks.same("the last is " + owner, x.ofField(0, 5), owner);
        }
        Checks.same("all are forgotten", x.forgets(0), 4);
        x.tells(2, 0);
        Checks.same("the first, as there was none", x.ofField(0, 4), 2);
    }

    /** Terms, TELLING: "MINUTE (0 to 9999 ..)". */
    private static void minuteIs9999AtMost() {
        FieldsTold x = Edges.lateRoad();
        Checks.same("MINUTE", x.count(1), 9998);
        Checks.same("the last telling", x.tells(0, 0), -1);
        Checks.same("MINUTE", x.count(1), 9999);
        Checks.same("one more", x.tells(0, 0), Checks.STATE);
        Checks.same("one more, of another", x.tells(1, 0), Checks.STATE);
        Checks.same("MINUTE at most", x.count(1), 9999);
        Checks.same("tellings", x.ofField(0, 9), 1);
    }

    /** What it is: "An object is used for at most 512 calls": the 512th answers as is due. */
    private static void answers512Calls() {
        FieldsTold x = new FieldsTold();
        Checks.same("the 1st call", x.field(0, 9), 0);
        for (int i = 2; i < 510; i++) {
            x.tells(0, i % 2);
        }
        Checks.same("the 510th call", x.tellings(0, 0), 9);
        Checks.same("the 511th call", x.tells(1, 0), -1);
        Checks.same("the 512th call", x.count(1), 10);
    }
}
