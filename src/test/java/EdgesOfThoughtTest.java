/** The edges that Terms, 3, and promises 17 to 24 name: what would be. */
final class EdgesOfThoughtTest {
    private EdgesOfThoughtTest() {
    }

    public static void main(String[] args) {
        minuteDoesntMatter();
        aTenthTellingChangesNothing();
        p17NeededBeyond();
        p17Needed0To9();
        p17NeededByNone();
        p17NeededBeyondAheadOfNone();
        p17NeededOfItsMower();
        p18CoachBeyond();
        p18CoachUpToThatDitch();
        p19GainBeyond();
        p19GainOfTheEmptySet();
        p19GainNoLaterThanTheCoach();
        p19GainOfWhatIsNeededNow();
        p19GainTheLeastSet();
        p19GainOfAll();
        p20TurnsBeyond();
        p20TurnsOneOwnerTwice();
        p20TurnsState();
        p20TurnsBeyondAheadOfState();
        p20TurnsNone();
        p20TurnsTheFirst5();
        p20TurnsAsManyAsThereAre();
        p20TurnsFromLeastToMost();
        p20TurnsHaveToTell();
        p21OneBeyond();
        p21OneNone();
        p21OneBeyondAheadOfNone();
        p21OneTheLeastAndHowMany();
        p21OneOfAllFieldsJust();
        p22FearsBeyond();
        p22FearsNone();
        p22FearsBeyondAheadOfNone();
        p22FearsTheFirstAndHowMany();
        p22FearsOfAllFieldsJust();
        p23SilenceBeyond();
        p23SilenceOfEchoesBehind();
        p24OddsBeyond();
        p24OddsInLowestTerms();
        p24OddsOfTenFields();
        thoughtsChangeNothing();
        Checks.end("EdgesOfThoughtTest");
    }

    /** Three fields as at first, and a sheet of what their mowers say. */
    private static FieldsTold three() {
        FieldsTold x = Edges.road(0, 3);
        Checks.row(x, 0, 8, -1, -1, -1);
        return x;
    }

    private static FieldsTold lastMinute() {
        FieldsTold x = Edges.lateRoad();
        x.become(0, 10);
        x.tells(0, 0);
        x.become(0, 0);
        return x;
    }

    /** Terms, 3: "(All this is only thought; MINUTE doesn't matter": in MINUTE 9999, where tells() is STATE. */
    private static void minuteDoesntMatter() {
        FieldsTold x = lastMinute();
        Checks.same("MINUTE", x.count(1), 9999);
        Checks.same("tells", x.tells(2, 0), Checks.STATE);
        Checks.same("NEEDED", x.needed(2, 0), 3);
        Checks.same("GAIN", x.gain(2, 0), 99);
        Checks.row(x, 0, 8, 2);
        Checks.same("ONE", x.one(0, 0), 20);
        Checks.same("ONE", x.one(0, 1), 1);
        Checks.read(x, 0, "n>0");
        Checks.same("BY TURNS", x.turns(2, 0, 1), 99);
        Checks.same("BY TURNS", x.turns(2, 0, 4), -99);
        Checks.same("NEEDED", x.needed(2, 0), 1);
        Checks.same("MINUTE", x.count(1), 9999);
    }

    private static FieldsTold toldThenBy1(int times) {
        FieldsTold x = Edges.road(0, 1);
        Checks.tell(x, 0, 0, times);
        Checks.tell(x, 1, 0, 1);
        Checks.row(x, 0, 8, 0);
        Checks.row(x, 1, 8, 1);
        return x;
    }

    /** Terms, 3: "a tenth TELLING of an OWNER to a MOWER changes nothing there": not the LAST either; a ninth does. */
    private static void aTenthTellingChangesNothing() {
        Edges.allowed("NEEDED: the ninth", () -> toldThenBy1(8), x -> x.needed(0, 0), 1);
        Edges.refused("NEEDED: the tenth", () -> toldThenBy1(9), x -> x.needed(0, 0), Checks.NONE);
        Edges.allowed("ONE: the ninth", () -> toldThenBy1(8), x -> x.one(0, 0), 0);
        Edges.refused("ONE: the tenth", () -> toldThenBy1(9), x -> x.one(0, 0), Checks.NONE);
        Edges.allowed("ONE: the ninth", () -> toldThenBy1(8), x -> x.one(1, 0), 10);
        Edges.allowed("ONE: the tenth", () -> toldThenBy1(9), x -> x.one(1, 0), 0);
        Edges.allowed("BY TURNS: the ninth", () -> toldThenBy1(8), x -> x.turns(0, 2, 1), 99);
        Edges.allowed("BY TURNS: the tenth", () -> toldThenBy1(9), x -> x.turns(0, 2, 1), 0);
        Edges.allowed("BY TURNS: the tenth", () -> toldThenBy1(9), x -> x.turns(0, 2, 3), 0);
        Edges.allowed("GAIN: the ninth", () -> toldThenBy1(8), x -> x.gain(0, 0), 99);
        Edges.allowed("GAIN: the tenth", () -> toldThenBy1(9), x -> x.gain(0, 0), 0);
    }

    /** Promise 17: "BEYOND.", of the OWNER and of the FIELD. */
    private static void p17NeededBeyond() {
        Edges.bounds("P17 owner", Edges::rich, (x, v) -> x.needed(v, 2), 0, 3);
        Edges.bounds("P17 field of seven", Edges::rich, (x, v) -> x.needed(2, v), 0, 6);
        Edges.bounds("P17 field of ten", Edges::tenFields, (x, v) -> x.needed(3, v), 0, 9);
    }

    private static FieldsTold byTitle(String text, int times) {
        FieldsTold x = Edges.road(0, 1);
        Checks.same("a text " + text, Checks.read(x, 0, text), 1);
        Checks.tell(x, 1, 0, times);
        return x;
    }

    /** Terms, NEEDED: "the least number (0 to 9)". */
    private static void p17Needed0To9() {
        Edges.allowed("P17 none more", () -> byTitle("n>2", 3), x -> x.needed(1, 0), 0);
        Edges.allowed("P17 one more", () -> byTitle("n>2", 2), x -> x.needed(1, 0), 1);
        Edges.allowed("P17 three more", () -> byTitle("n>2", 0), x -> x.needed(1, 0), 3);
        Edges.allowed("P17 eight more", () -> byTitle("n>8", 1), x -> x.needed(1, 0), 8);
        Edges.allowed("P17 nine more", () -> byTitle("n>8", 0), x -> x.needed(1, 0), 9);
        Edges.allowed("P17 none more of nine", () -> byTitle("n>8", 9), x -> x.needed(1, 0), 0);
        Edges.allowed("P17 the least of several", () -> byTitle("n=2|n=5|n=7", 0), x -> x.needed(1, 0), 2);
        Edges.allowed("P17 the least of several", () -> byTitle("n=2|n=5|n=7", 3), x -> x.needed(1, 0), 2);
        Edges.allowed("P17 the title goes again", () -> byTitle("n<3", 1), x -> x.needed(1, 0), 0);
        Edges.allowed("P17 that it says so", () -> byTitle("1", 0), x -> x.needed(2, 0), 1);
    }

    /** Promise 17: "NONE: by none.". */
    private static void p17NeededByNone() {
        Edges.refused("P17 ten are needed", () -> byTitle("n>9", 0), x -> x.needed(1, 0), Checks.NONE);
        Edges.refused("P17 nine are there", () -> byTitle("n>9", 9), x -> x.needed(1, 0), Checks.NONE);
        Edges.refused("P17 there are too many", () -> byTitle("n<3", 3), x -> x.needed(1, 0), Checks.NONE);
        Edges.refused("P17 a text of 0", () -> byTitle("0", 0), x -> x.needed(1, 0), Checks.NONE);
        Edges.refused("P17 a deaf one", () -> Edges.road(11, 1), x -> x.needed(1, 0), Checks.NONE);
        Edges.refused("P17 a deaf one", () -> Edges.road(11, 1), x -> x.needed(0, 0), Checks.NONE);
        Edges.refused("P17 an even echo", () -> Edges.road(60, 1), x -> x.needed(0, 0), Checks.NONE);
        Edges.allowed("P17 an odd echo in field 0", () -> Edges.road(61, 1), x -> x.needed(0, 0), 3);
    }

    /** Promise 17: "BEYOND. NONE: ..", in this order. */
    private static void p17NeededBeyondAheadOfNone() {
        Edges.refused("P17 owner, a deaf one", () -> Edges.road(11, 1), x -> x.needed(4, 0), Checks.BEYOND);
        Edges.refused("P17 field, deaf ones", () -> Edges.road(11, 1), x -> x.needed(0, 1), Checks.BEYOND);
    }

    /** Terms, NEEDED: "of that OWNER to its MOWER": not to the one that an ECHO listens to. */
    private static void p17NeededOfItsMower() {
        FieldsTold x = Edges.road(61, 2);
        x.become(0, 0);
        Checks.same("P17 none says so ahead", x.needed(2, 1), Checks.NONE);
        x.tells(2, 0);
        Checks.same("P17 it is said ahead", x.needed(2, 1), 3);
        Checks.tell(x, 2, 1, 2);
        Checks.same("P17 one more", x.needed(2, 1), 1);
        x.tells(1, 0);
        Checks.same("P17 another one says so ahead", x.needed(2, 1), Checks.NONE);
    }

    /** Promise 18: "BEYOND.". */
    private static void p18CoachBeyond() {
        Edges.bounds("P18 field of seven", Edges::rich, FieldsTold::coach, 0, 6);
        Edges.bounds("P18 field of ten", Edges::tenFields, FieldsTold::coach, 0, 9);
    }

    /** Terms, THE COACH: "behind i and 1 times PACE, and all DITCHES up to that one's". */
    private static void p18CoachUpToThatDitch() {
        FieldsTold x = Edges.tenFields();
        Checks.same("P18 at first", x.coach(0), 4);
        Checks.same("P18 at first", x.coach(9), 40);
        x.pace(1);
        Checks.same("P18 the least", x.coach(0), 1);
        x.set(1, 1, 9);
        Checks.same("P18 a ditch behind", x.coach(0), 1);
        Checks.same("P18 that one's ditch", x.coach(1), 11);
        Checks.same("P18 a ditch ahead", x.coach(2), 12);
        for (int i = 0; i < 10; i++) {
            x.set(i, 1, 9);
        }
        x.pace(20);
        Checks.same("P18 the most at 0", x.coach(0), 29);
        Checks.same("P18 the most", x.coach(9), 290);
    }

    /** Promise 19: "BEYOND.", of the OWNER and of what. */
    private static void p19GainBeyond() {
        Edges.bounds("P19 owner", Edges::rich, (x, v) -> x.gain(v, 0), 0, 3);
        Edges.bounds("P19 what", Edges::rich, (x, v) -> x.gain(3, v), 0, 1);
        Edges.bounds("P19 owner without fields", Edges::bare, (x, v) -> x.gain(v, 1), 0, 3);
        Edges.bounds("P19 what without fields", Edges::bare, (x, v) -> x.gain(0, v), 0, 1);
    }

    /** Terms, GAIN: of no FIELDS, and of none that can be had, the empty set. */
    private static void p19GainOfTheEmptySet() {
        for (int what = 0; what < 2; what++) {
            int w = what;
            Edges.allowed("P19 no fields", Edges::bare, x -> x.gain(0, w), 0);
            Edges.allowed("P19 none can be had", () -> Edges.road(11, 10), x -> x.gain(1, w), 0);
            Edges.allowed("P19 none in time", () -> atPace(2, 0), x -> x.gain(1, w), 0);
            Edges.allowed("P19 one acre is more than none", () -> ofOneAcre(), x -> x.gain(1, w), 1);
        }
    }

    private static FieldsTold ofOneAcre() {
        FieldsTold x = new FieldsTold();
        x.field(0, 1);
        return x;
    }

    /** One field, where 3 TELLINGS are NEEDED. */
    private static FieldsTold atPace(int pace, int ditch) {
        FieldsTold x = Edges.road(0, 1);
        x.pace(pace);
        x.set(0, 1, ditch);
        return x;
    }

    /** Terms, RUN: "which must be no later than THE COACH is there". */
    private static void p19GainNoLaterThanTheCoach() {
        Edges.allowed("P19 at 3, the coach at 3", () -> atPace(3, 0), x -> x.gain(1, 0), 99);
        Edges.allowed("P19 at 3, the coach at 2", () -> atPace(2, 0), x -> x.gain(1, 0), 0);
        Edges.allowed("P19 at 3, the coach at 2 and a ditch of 1", () -> atPace(2, 1), x -> x.gain(1, 1), 1);
        Edges.allowed("P19 at 3, the coach at 1 and a ditch of 1", () -> atPace(1, 1), x -> x.gain(1, 1), 0);
        FieldsTold x = Edges.road(0, 2);
        x.become(0, 10);
        x.pace(2);
        Checks.same("P19 field 1 at 4, the coach at 4", x.gain(1, 1), 2);
        x.pace(1);
        x.set(0, 1, 1);
        Checks.same("P19 field 1 at 4, the coach at 3", x.gain(1, 1), 0);
        x.set(1, 1, 1);
        Checks.same("P19 field 1 at 4, the coach at 4", x.gain(1, 1), 2);
        x.become(0, 0);
        x.set(0, 1, 2);
        x.set(1, 1, 2);
        Checks.same("P19 both at 7, the coach at 6", x.gain(1, 1), 1);
        x.set(1, 1, 3);
        Checks.same("P19 both at 7, the coach at 7", x.gain(1, 1), 3);
    }

    /** Terms, RUN: "(each with what is NEEDED as it is now, not none)": 0 and 9 are such. */
    private static void p19GainOfWhatIsNeededNow() {
        FieldsTold x = Edges.road(0, 3);
        x.become(1, 61);
        x.become(2, 12);
        x.pace(20);
        Checks.same("P19 the echo's is none as it is now", x.gain(1, 1), 1);
        Checks.tell(x, 1, 0, 3);
        Checks.same("P19 the echo's is 3, the first's 0", x.gain(1, 1), 3);
        Checks.same("P19 the deaf one's is none", x.gain(2, 1), 1);
        x.pace(1);
        Checks.same("P19 what is had already needs no time", x.gain(1, 1), 1);
        Checks.tell(x, 1, 1, 3);
        Checks.same("P19 what is had already needs no time", x.gain(1, 1), 3);
        Checks.read(x, 0, "n>8");
        x.forgets(0);
        x.pace(9);
        Checks.same("P19 at 9, the coach at 9", x.gain(1, 1), 1);
        x.pace(8);
        Checks.same("P19 at 9, the coach at 8", x.gain(1, 1), 0);
        Checks.read(x, 0, "n>9");
        x.pace(20);
        Checks.same("P19 ten are none", x.gain(1, 1), 0);
    }

    /** Terms, GAIN: "of several the least set (as bits)". */
    private static void p19GainTheLeastSet() {
        FieldsTold x = Edges.road(0, 3);
        x.set(0, 0, 10);
        x.set(1, 0, 10);
        x.set(2, 0, 20);
        Checks.tell(x, 1, 0, 2);
        Checks.tell(x, 1, 1, 2);
        x.pace(1);
        x.set(1, 1, 1);
        x.set(2, 1, 1);
        // the coach is there at 1, 3, 5; NEEDED are 1, 1, 3: either the first two or the third
        Checks.same("P19 acres of 3 and of 4", x.gain(1, 0), 20);
        Checks.same("P19 the least of 3 and 4", x.gain(1, 1), 3);
        x.set(2, 0, 21);
        Checks.same("P19 more acres go ahead", x.gain(1, 1), 4);
        x.set(2, 0, 19);
        Checks.same("P19 more acres go ahead", x.gain(1, 1), 3);
        FieldsTold y = Edges.road(0, 2);
        y.pace(3);
        Checks.same("P19 of 1 and 2 the least", y.gain(1, 1), 1);
    }

    /** Terms, GAIN: "the most ACRES of such a set": all ten FIELDS. */
    private static void p19GainOfAll() {
        FieldsTold x = Edges.tenFields();
        Checks.same("P19 all ten, pace 4: 3 and a minute each", x.gain(0, 0), 990);
        Checks.same("P19 all ten", x.gain(0, 1), 1023);
        x.pace(3);
        // the j-th of a set is done at i + 3j, the coach there at 3i + 3: 7 of them at most, 0, 2, 3, 5, 6, 8, 9
        Checks.same("P19 seven of ten, pace 3", x.gain(0, 0), 693);
        Checks.same("P19 the least set of seven", x.gain(0, 1), 877);
        Edges.allowed("P19 had already", () -> told10(1), y -> y.gain(3, 1), 1023);
    }

    private static FieldsTold told10(int pace) {
        FieldsTold x = Edges.road(13, 10);
        Checks.read(x, 0, "1");
        x.pace(pace);
        return x;
    }

    /** Promise 20: "BEYOND", of the OWNERS and of n, and Terms, BY TURNS: "by n (0 to 4)". */
    private static void p20TurnsBeyond() {
        Edges.bounds("P20 the first owner", Edges::rich, (x, v) -> x.turns(v, 2, 1), 0, 3);
        Edges.bounds("P20 the other owner", Edges::rich, (x, v) -> x.turns(2, v, 1), 0, 3);
        Edges.bounds("P20 n", Edges::rich, (x, v) -> x.turns(0, 3, v), 0, 4);
    }

    /** Promise 20: "BEYOND: also one OWNER twice.". */
    private static void p20TurnsOneOwnerTwice() {
        for (int owner = 0; owner < 4; owner++) {
            int o = owner;
            Edges.refused("P20 owner " + o + " twice", Edges::rich, x -> x.turns(o, o, 0), Checks.BEYOND);
            Edges.refused("P20 owner " + o + " twice", Edges::rich, x -> x.turns(o, o, 4), Checks.BEYOND);
            Edges.allowed("P20 two owners", () -> Edges.road(0, 1), x -> x.turns(o, (o + 1) % 4, 0), 0);
        }
    }

    /** Promise 20: "STATE: there are no FIELDS.", by any n. */
    private static void p20TurnsState() {
        for (int n = 0; n < 5; n++) {
            int by = n;
            Edges.refused("P20 no fields, n " + n, Edges::bare, x -> x.turns(0, 1, by), Checks.STATE);
            Edges.allowed("P20 one field, n " + n, () -> Edges.road(11, 1), x -> x.turns(0, 1, by), 0);
        }
    }

    /** Promise 20: "BEYOND: .. STATE: ..", in this order. */
    private static void p20TurnsBeyondAheadOfState() {
        Edges.refused("P20 twice, no fields", Edges::bare, x -> x.turns(1, 1, 0), Checks.BEYOND);
        Edges.refused("P20 the first, no fields", Edges::bare, x -> x.turns(4, 1, 0), Checks.BEYOND);
        Edges.refused("P20 the other, no fields", Edges::bare, x -> x.turns(1, -1, 0), Checks.BEYOND);
        Edges.refused("P20 n 5, no fields", Edges::bare, x -> x.turns(0, 1, 5), Checks.BEYOND);
        Edges.refused("P20 n -1, no fields", Edges::bare, x -> x.turns(0, 1, -1), Checks.BEYOND);
    }

    /** Terms, BY TURNS: "by n (0 to 4)": by 0 as they are. */
    private static void p20TurnsNone() {
        FieldsTold x = Edges.road(0, 2);
        Checks.read(x, 0, "n>0");
        Checks.same("P20 none", x.turns(0, 1, 0), 0);
        Checks.same("P20 one", x.turns(0, 1, 1), 99);
        x.tells(0, 1);
        Checks.same("P20 none", x.turns(0, 1, 0), 99);
        Checks.same("P20 none", x.turns(1, 0, 0), -99);
        Checks.same("P20 two: one each", x.turns(0, 1, 2), 0);
        Checks.same("P20 three: the first tells last", x.turns(0, 1, 3), 198);
        Checks.same("P20 four: the other tells last", x.turns(0, 1, 4), 0);
    }

    /** Terms, BY TURNS: "to one of the first 5 FIELDS": the fifth, not the sixth. */
    private static void p20TurnsTheFirst5() {
        FieldsTold x = Edges.road(11, 6);
        Checks.read(x, 0, "n>0");
        x.become(5, 0);
        for (int n = 1; n < 5; n++) {
            Checks.same("P20 the sixth is not told", x.turns(0, 2, n), 0);
        }
        x.become(4, 0);
        Checks.same("P20 the fifth is told", x.turns(0, 2, 1), 99);
        Checks.same("P20 the fifth is told", x.turns(0, 2, 2), -99);
        x.become(5, 60);
        Checks.read(x, 0, "f=0|f=2");
        Checks.same("P20 the sixth's acres count", x.turns(0, 2, 1), 198);
        Checks.same("P20 the sixth's acres count", x.turns(2, 0, 1), 198);
    }

    /** Terms, BY TURNS: "(or as many as there are)": one FIELD takes all four. */
    private static void p20TurnsAsManyAsThereAre() {
        FieldsTold x = Edges.road(0, 1);
        Checks.read(x, 0, "n>1");
        Checks.same("P20 one telling", x.turns(0, 1, 1), 0);
        Checks.same("P20 two tellings", x.turns(0, 1, 2), 0);
        Checks.same("P20 three tellings", x.turns(0, 1, 3), 99);
        Checks.same("P20 four tellings", x.turns(0, 1, 4), -99);
    }

    /** Promise 20: "(any number)": from all of the other one to all of the first one. */
    private static void p20TurnsFromLeastToMost() {
        FieldsTold x = told10(4);
        Checks.same("P20 all are the first one's", x.turns(3, 0, 0), 990);
        Checks.same("P20 all are the other one's", x.turns(0, 3, 0), -990);
        Checks.same("P20 deaf ones hear no four", x.turns(0, 3, 4), -990);
        Checks.same("P20 of neither", x.turns(0, 1, 4), 0);
    }

    /** Terms, BY TURNS: "the first one does a TELLING": it may not be left out. */
    private static void p20TurnsHaveToTell() {
        FieldsTold x = Edges.road(0, 1);
        Checks.read(x, 0, "n=2");
        Checks.tell(x, 0, 0, 2);
        Checks.same("P20 as it is", x.turns(0, 1, 0), 99);
        Checks.same("P20 a third telling", x.turns(0, 1, 1), 0);
        Checks.same("P20 a deaf one takes it", withADeafOne(x).turns(0, 1, 1), 99);
    }

    private static FieldsTold withADeafOne(FieldsTold x) {
        x.field(12, 50);
        return x;
    }

    /** Promise 21: "BEYOND.", of the SHEET and of what. */
    private static void p21OneBeyond() {
        Edges.bounds("P21 sheet", EdgesOfThoughtTest::three, (x, v) -> x.one(v, 0), 0, 3);
        Edges.bounds("P21 what", EdgesOfThoughtTest::three, (x, v) -> x.one(0, v), 0, 1);
        Edges.bounds("P21 sheet", Edges::rich, (x, v) -> x.one(v, 1), 0, 3);
    }

    private static FieldsTold saying(int... numbers) {
        FieldsTold x = three();
        Checks.row(x, 0, 8, numbers);
        return x;
    }

    /** Promise 21: "NONE: the SHEET is missing; by none.". */
    private static void p21OneNone() {
        for (int what = 0; what < 2; what++) {
            int w = what;
            Edges.refused("P21 missing", EdgesOfThoughtTest::three, x -> x.one(3, w), Checks.NONE);
            Edges.refused("P21 missing, no fields", Edges::bare, x -> x.one(0, w), Checks.NONE);
            Edges.refused("P21 by none: all heard", EdgesOfThoughtTest::three, x -> x.one(0, w), Checks.NONE);
            Edges.refused("P21 by none: two alone", () -> saying(1, 1, -1), x -> x.one(0, w), Checks.NONE);
            Edges.refused("P21 by none: no owner", () -> saying(-1, 4, -1), x -> x.one(0, w), Checks.NONE);
            Edges.refused("P21 by none: no owner", () -> saying(-2, -1, -1), x -> x.one(0, w), Checks.NONE);
            Edges.refused("P21 by none: no fields", () -> missing(Edges.bare()), x -> x.one(0, w), Checks.NONE);
        }
        Edges.allowed("P21 by one", () -> saying(-1, -1, 3), x -> x.one(0, 0), 32);
        Edges.allowed("P21 by one", () -> saying(-1, -1, 3), x -> x.one(0, 1), 1);
    }

    /** A sheet 0 of no numbers, all other sheets missing. */
    private static FieldsTold missing(FieldsTold x) {
        x.sheet(0, 8, 0);
        return x;
    }

    /** Promise 21: "BEYOND. NONE: ..", in this order. */
    private static void p21OneBeyondAheadOfNone() {
        Edges.refused("P21 what, missing", EdgesOfThoughtTest::three, x -> x.one(3, 2), Checks.BEYOND);
        Edges.refused("P21 what, by none", EdgesOfThoughtTest::three, x -> x.one(0, 2), Checks.BEYOND);
        Edges.refused("P21 what, by none", EdgesOfThoughtTest::three, x -> x.one(0, -1), Checks.BEYOND);
    }

    /** Terms, ONE: "the least of 10 times the OWNER and the FIELD; how many": 0 to 39, and all 40. */
    private static void p21OneTheLeastAndHowMany() {
        FieldsTold x = Edges.tenFields();
        Checks.row(x, 0, 8, 0, -1, -1, -1, -1, -1, -1, -1, -1, -1);
        Checks.same("P21 owner 0 to field 0", x.one(0, 0), 0);
        Checks.row(x, 0, 8, -1, -1, -1, -1, -1, -1, -1, -1, -1, 3);
        Checks.same("P21 owner 3 to field 9", x.one(0, 0), 39);
        Checks.same("P21 one alone", x.one(0, 1), 1);
        Checks.row(x, 0, 8, -1, -1, -1, -1, -1, -1, -1, -1, -1, 0);
        Checks.same("P21 owner 0 to field 9", x.one(0, 0), 9);
        FieldsTold y = Edges.road(12, 10);
        Checks.row(y, 0, 32, 2, 2, 2, 2, 2, 2, 2, 2, 2, 2);
        Checks.same("P21 deaf ones: all", y.one(0, 1), 40);
        Checks.same("P21 deaf ones: the least", y.one(0, 0), 0);
        y.become(0, 30);
        Checks.row(y, 0, 32, 1, 2, 2, 2, 2, 2, 2, 2, 2, 2);
        Checks.same("P21 owner 1 to field 0", y.one(0, 0), 10);
        Checks.same("P21 owner 1 to field 0", y.one(0, 1), 1);
        y.tells(1, 0);
        Checks.same("P21 a loyal one: all again", y.one(0, 1), 40);
    }

    /** Terms, SHEET: "(-1: none), of all FIELDS just": no number less, none more; by any bits. */
    private static void p21OneOfAllFieldsJust() {
        FieldsTold x = Edges.road(0, 2);
        Checks.row(x, 0, 8, -1, 2);
        Checks.same("P21 just", x.one(0, 0), 21);
        Checks.row(x, 0, 8, -1, 2, -1);
        Checks.same("P21 one more", x.one(0, 0), Checks.NONE);
        Checks.row(x, 0, 8, 2);
        Checks.same("P21 one less", x.one(0, 0), Checks.NONE);
        Checks.row(x, 0, 8);
        Checks.same("P21 no number", x.one(0, 0), Checks.NONE);
        Checks.row(x, 0, 8, 255, 258);
        Checks.same("P21 by 8 bits", x.one(0, 0), 21);
        Checks.row(x, 0, 16, 65535, 65538);
        Checks.same("P21 by 16 bits", x.one(0, 0), 21);
        Checks.row(x, 0, 16, 255, 258);
        Checks.same("P21 by 16 bits", x.one(0, 0), Checks.NONE);
        Checks.row(x, 0, 32, 65535, 65538);
        Checks.same("P21 by 32 bits", x.one(0, 0), Checks.NONE);
        Checks.row(x, 0, 32, -1, 2);
        Checks.same("P21 by 32 bits", x.one(0, 0), 21);
        x.sheet(0, 8, 40);
        Checks.same("P21 40 numbers", x.one(0, 0), Checks.NONE);
    }

    /** Promise 22: "BEYOND.", of the SHEET and of what. */
    private static void p22FearsBeyond() {
        Edges.bounds("P22 sheet", EdgesOfThoughtTest::three, (x, v) -> x.fears(v, 0), 0, 3);
        Edges.bounds("P22 what", EdgesOfThoughtTest::three, (x, v) -> x.fears(0, v), 0, 1);
        Edges.bounds("P22 sheet", Edges::rich, (x, v) -> x.fears(v, 1), 0, 3);
    }

    /** Promise 22: "NONE: likewise.": the SHEET is missing; by none. */
    private static void p22FearsNone() {
        for (int what = 0; what < 2; what++) {
            int w = what;
            Edges.refused("P22 missing", EdgesOfThoughtTest::three, x -> x.fears(3, w), Checks.NONE);
            Edges.refused("P22 missing, no fields", Edges::bare, x -> x.fears(0, w), Checks.NONE);
            Edges.refused("P22 by none", () -> saying(-1, -1, 0), x -> x.fears(0, w), Checks.NONE);
            Edges.refused("P22 by none", () -> saying(-2, -1, -1), x -> x.fears(0, w), Checks.NONE);
        }
        Edges.allowed("P22 by all ways", EdgesOfThoughtTest::three, x -> x.fears(0, 0), 123);
        Edges.allowed("P22 by all ways", EdgesOfThoughtTest::three, x -> x.fears(0, 1), 24);
        Edges.allowed("P22 no fields, no numbers", () -> missing(Edges.bare()), x -> x.fears(0, 1), 24);
        Edges.allowed("P22 no fields, no numbers", () -> missing(Edges.bare()), x -> x.fears(0, 0), 123);
    }

    /** Promise 22: "BEYOND. NONE: ..", in this order. */
    private static void p22FearsBeyondAheadOfNone() {
        Edges.refused("P22 what, missing", EdgesOfThoughtTest::three, x -> x.fears(3, 2), Checks.BEYOND);
        Edges.refused("P22 what, by none", () -> saying(0, 0, 0), x -> x.fears(0, -1), Checks.BEYOND);
    }

    /** Fearful ones that were told by owners 0 and 1, 1 and 2, 2 and 3. */
    private static FieldsTold byPairs() {
        FieldsTold x = Edges.road(20, 3);
        for (int i = 0; i < 3; i++) {
            x.tells(i, i);
            x.tells(i + 1, i);
        }
        return x;
    }

    /** Terms, FEARS: "the first (as a row, by OWNERS; told as four digits), how many": from 0123 to 3210. */
    private static void p22FearsTheFirstAndHowMany() {
        int[][] rows = {{1, 2, 3}, {0, 1, 2}, {0, 1, 3}, {1, 1, 2}, {0, 2, 2}, {1, 2, 2}, {1, 1, 3}};
        int[] first = {123, 3210, 2103, 321, 1032, 132, 213};
        int[] many = {1, 1, 3, 3, 5, 3, 5};
        FieldsTold x = byPairs();
        for (int i = 0; i < rows.length; i++) {
            Checks.row(x, 0, 8, rows[i]);
            Checks.same("P22 the first of row " + i, x.fears(0, 0), first[i]);
            Checks.same("P22 how many of row " + i, x.fears(0, 1), many[i]);
        }
        for (int owner = 0; owner < 4; owner++) {
            x.fear(owner, 9);
        }
        Checks.row(x, 0, 8, 1, 2, 3);
        Checks.same("P22 fears as they are don't matter", x.fears(0, 0), 123);
        Checks.same("P22 they stay", x.ofOwner(0, 0), 9);
        Checks.same("P22 and what is said stays", x.ofField(2, 6), 2);
    }

    /** Terms, SHEET: "of all FIELDS just", for FEARS. */
    private static void p22FearsOfAllFieldsJust() {
        FieldsTold x = byPairs();
        Checks.row(x, 0, 8, 1, 2);
        Checks.same("P22 one less", x.fears(0, 1), Checks.NONE);
        Checks.row(x, 0, 8, 1, 2, 3, -1);
        Checks.same("P22 one more", x.fears(0, 1), Checks.NONE);
        Checks.row(x, 0, 8);
        Checks.same("P22 no number", x.fears(0, 1), Checks.NONE);
        Checks.row(x, 0, 8, 257, 258, 259);
        Checks.same("P22 by 8 bits", x.fears(0, 1), 1);
        Checks.row(x, 0, 16, 257, 258, 259);
        Checks.same("P22 by 16 bits", x.fears(0, 1), Checks.NONE);
        Checks.row(x, 0, 32, 1, 2, 3);
        Checks.same("P22 by 32 bits", x.fears(0, 1), 1);
    }

    /** Promise 23: "BEYOND.", of the FIELD and of the OWNER. */
    private static void p23SilenceBeyond() {
        Edges.bounds("P23 field of seven", Edges::rich, (x, v) -> x.silence(v, 2), 0, 6);
        Edges.bounds("P23 field of ten", Edges::tenFields, (x, v) -> x.silence(v, 3), 0, 9);
        Edges.bounds("P23 owner", Edges::rich, (x, v) -> x.silence(6, v), 0, 3);
    }

    /** Terms, SILENCE: "(and so each ECHO behind it) SAYS none": to the last FIELD, or the first that is no ECHO. */
    private static void p23SilenceOfEchoesBehind() {
        FieldsTold x = Edges.road(60, 10);
        x.become(0, 13);
        Checks.read(x, 0, "1");
        Checks.same("P23 all ten", x.silence(0, 3), 990);
        Checks.same("P23 of an echo on", x.silence(1, 3), 891);
        Checks.same("P23 the last alone", x.silence(9, 3), 99);
        Checks.same("P23 of another owner", x.silence(0, 2), 0);
        x.become(5, 13);
        Checks.same("P23 up to one that is no echo", x.silence(0, 3), 495);
        Checks.same("P23 up to one that is no echo", x.silence(4, 3), 99);
        Checks.same("P23 behind it", x.silence(5, 3), 495);
        x.become(5, 12);
        Checks.same("P23 what another says", x.silence(5, 2), 495);
        Checks.same("P23 what another says", x.silence(5, 3), 0);
        Checks.read(x, 0, "0");
        Checks.same("P23 nobody's", x.silence(0, 3), 0);
        FieldsTold y = Edges.road(61, 2);
        Checks.tell(y, 1, 0, 3);
        Checks.same("P23 an echo's title isn't", y.silence(0, 1), 99);
        Checks.same("P23 nothing of nobody's", y.silence(1, 1), 0);
    }

    /** Promise 24: "BEYOND.", of the OWNER and of the part, in longs. */
    private static void p24OddsBeyond() {
        Edges.bounds("P24 owner", Edges::rich, (x, v) -> x.odds(v, 0), 0, 3);
        Edges.bounds("P24 part", Edges::rich, (x, v) -> x.odds(3, v), 0, 1);
        Edges.bounds("P24 owner without fields", Edges::bare, (x, v) -> x.odds(v, 1), 0, 3);
    }

    private static FieldsTold deafTo(int m, int fields) {
        FieldsTold x = Edges.road(30 + m, fields);
        Checks.read(x, 0, "1");
        for (int i = 0; i < fields; i++) {
            x.tells(1, i);
        }
        return x;
    }

    /** Terms, ODDS: "(1, without any): a fraction in lowest terms", by each m. */
    private static void p24OddsInLowestTerms() {
        long[] above = {1, 15, 7, 13, 3, 11, 5, 9, 1, 7};
        long[] below = {1, 16, 8, 16, 4, 16, 8, 16, 2, 16};
        for (int part = 0; part < 2; part++) {
            int p = part;
            Edges.allowed("P24 no fields", Edges::bare, x -> x.odds(0, p), 1);
            Edges.allowed("P24 without any", () -> deafTo(9, 10), x -> x.odds(0, p), 1);
            for (int m = 0; m < 10; m++) {
                int by = m;
                long due = part == 0 ? above[m] : below[m];
                Edges.allowed("P24 by m " + m, () -> deafTo(by, 1), x -> x.odds(1, p), due);
            }
        }
    }

    /** Terms, ODDS, as longs: ten FIELDS of each m, and of several. */
    private static void p24OddsOfTenFields() {
        long[] above = {1, 576650390625L, 282475249, 137858491849L, 59049, 25937424601L, 9765625, 3486784401L, 1, 282475249};
        long[] below = {1, 1L << 40, 1L << 30, 1L << 40, 1L << 20, 1L << 40, 1L << 30, 1L << 40, 1L << 10, 1L << 40};
        for (int m = 0; m < 10; m++) {
            FieldsTold x = deafTo(m, 10);
            Checks.same("P24 ten fields by m " + m + ", above", x.odds(1, 0), above[m]);
            Checks.same("P24 ten fields by m " + m + ", below", x.odds(1, 1), below[m]);
        }
        FieldsTold x = new FieldsTold();
        Checks.read(x, 0, "1");
        for (int m = 0; m < 10; m++) {
            x.field(30 + m, 1);
            x.tells(1, m);
        }
        // 16 15 14 13 12 11 10 9 8 7 above, all of them by 2 eleven times
        Checks.same("P24 each m once, above", x.odds(1, 0), 15L * 7 * 13 * 3 * 11 * 5 * 9 * 7);
        Checks.same("P24 each m once, below", x.odds(1, 1), 1L << 29);
    }

    /** Terms, 3: "All this is only thought": nothing is changed by it. */
    private static void thoughtsChangeNothing() {
        FieldsTold x = Edges.rich();
        for (int owner = 0; owner < 4; owner++) {
            for (int i = 0; i < 7; i++) {
                x.needed(owner, i);
                x.silence(i, owner);
            }
            x.gain(owner, 1);
            x.turns(owner, (owner + 1) % 4, 4);
            x.odds(owner, 1);
            x.one(owner, 0);
            x.fears(owner, 0);
        }
        String is = Edges.whole(x);
        String due = Edges.whole(Edges.rich());
        Checks.isTrue("thoughts changed\n" + due + "\nto\n" + is, is.equals(due));
    }
}
