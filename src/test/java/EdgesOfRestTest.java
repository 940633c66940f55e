/** The edges that promises 25 to 27 and 33 to 38 name: z, voices, the trace, images, what waits, what is told. */
final class EdgesOfRestTest {
    private static final int MOST = Integer.MAX_VALUE;
    private static final int LEAST = Integer.MIN_VALUE;

    private EdgesOfRestTest() {
    }

    public static void main(String[] args) {
        p25SeedAnyNumber();
        p26VoiceBeyond();
        p26VoiceGoesRound();
        p26VoiceAnyNumber();
        p26VoiceByFieldAndM();
        p26VoiceOfTheNextKindAbove();
        p27TraceNone();
        p27TraceOfTheLatest();
        p27TraceStaysByAnError();
        p27TraceIsAtMost40();
        p33ImageHowOften();
        p33ImageInPlaceOfOneAhead();
        p34RestoreNone();
        p34RestoreAll();
        p34RestoreLeavesTheRest();
        p34RestoreMinute();
        p35TellFull();
        p35TellAnyNumber();
        p36CheckNoneWait();
        p36CheckThePlace();
        p36CheckNoSuchField();
        p36CheckNoneDoThen();
        p37CountBeyond();
        p37CountFromLeastToMost();
        p37CountAnyZ();
        p38ToldBeyond();
        p38ToldEachByItself();
        p38ToldOfErrorsAlone();
        Checks.end("EdgesOfRestTest");
    }

    /** Promise 25: "z becomes v: what it was (any number)", and Terms, draws: "z is told (1 at first)". */
    private static void p25SeedAnyNumber() {
        Edges.allowed("P25 at first", Edges::bare, x -> x.seed(0), 1);
        FieldsTold x = new FieldsTold();
        int was = 1;
        for (int v : new int[] {LEAST, MOST, 0, -1, Checks.BEYOND, Checks.KIND, 1, 1}) {
            Checks.same("P25 what it was", x.seed(v), was);
            Checks.same("P25 what it is", x.count(9), v);
            was = v;
        }
        Checks.same("P25 no error", Edges.errorsOf(x), 0);
    }

    /** Promise 26: "BEYOND.", of the FIELD and of the act; x is any number. */
    private static void p26VoiceBeyond() {
        Edges.bounds("P26 field of seven", Edges::rich, (x, v) -> x.voice(v, 0, 1), 0, 6);
        Edges.bounds("P26 field of ten", Edges::tenFields, (x, v) -> x.voice(v, 3, 1), 0, 9);
        Edges.bounds("P26 act", Edges::rich, (x, v) -> x.voice(6, v, 1), 0, 3);
        for (int number : new int[] {LEAST, -1, 0, MOST}) {
            Edges.refused("P26 act 4, x " + number, Edges::rich, x -> x.voice(0, 4, number), Checks.BEYOND);
        }
    }

    private static void voice(int km, int field, int act, int by, int due) {
        FieldsTold x = Edges.tenFields();
        x.become(field, km);
        Checks.same("P26 km " + km + ", field " + field + ", act " + act + " by " + by, x.voice(field, act, by), due);
        Checks.same("P26 no error", Edges.errorsOf(x), 0);
    }

    /** Terms, VOICES: "with a number x (ints that go round)", in each BODY. */
    private static void p26VoiceGoesRound() {
        voice(0, 0, 0, MOST, MOST);
        voice(0, 1, 0, MOST, LEAST);
        voice(0, 9, 0, MOST, LEAST + 8);
        voice(0, 9, 0, LEAST, LEAST + 9);
        voice(0, 1, 1, MOST, 0);
        voice(0, 0, 1, MOST, -2);
        voice(0, 0, 1, LEAST, 0);
        voice(0, 0, 1, 1073741824, LEAST);
        voice(0, 0, 2, LEAST, LEAST);
        voice(1, 0, 2, LEAST, MOST);
        voice(9, 0, 2, LEAST, MOST - 8);
        voice(0, 0, 3, LEAST, LEAST);
        voice(10, 0, 0, MOST, MOST - 2);
        voice(10, 1, 0, MOST, LEAST);
        voice(10, 0, 0, LEAST, LEAST);
        voice(10, 0, 1, MOST, -6);
        voice(20, 0, 2, LEAST, LEAST);
        voice(21, 0, 2, LEAST, LEAST + 1);
        voice(20, 0, 2, MOST, LEAST + 1);
        voice(30, 0, 1, 1073741824, MOST);
        voice(32, 0, 1, MOST, -1);
        voice(40, 0, 3, LEAST, LEAST - 6);
        voice(50, 1, 2, LEAST, LEAST + 1);
        voice(50, 0, 3, LEAST, LEAST);
        voice(60, 0, 1, MOST, -1);
        voice(61, 0, 1, MOST, 0);
    }

    /** Promise 26: "any number": those of ERRORS are none, and x is all ints. */
    private static void p26VoiceAnyNumber() {
        for (int k = 1; k <= 5; k++) {
            voice(0, 0, 0, Checks.LOW - k, Checks.LOW - k);
            voice(0, 0, 2, Checks.LOW - k, Checks.LOW - k);
        }
        voice(0, 0, 0, Checks.LOW, Checks.LOW);
        voice(0, 0, 0, 0, 0);
        voice(0, 0, 0, -1, -1);
    }

    /** Terms, VOICES: "n is the number of its FIELD, m as told": 0 and 9 of each. */
    private static void p26VoiceByFieldAndM() {
        for (int field = 0; field < 10; field += 9) {
            for (int m = 0; m < 10; m += 9) {
                int hears = 100 + field;
                int fears = 100 - m;
                voice(m, field, 0, 100, hears);
                voice(m, field, 2, 100, fears);
                voice(10 + m, field, 0, 100, 3 * hears);
                voice(20 + m, field, 2, 100, -fears);
                voice(30 + m, field, 1, 100, 2 * hears - (1 - m));
                voice(40 + m, field, 3, 100, (6 * hears ^ fears) - 3 * (2 + field));
                voice(50 + m, field, 2, 100, -fears ^ field);
                voice(50 + m, field, 3, 100, 2 * hears - (2 * hears ^ (-fears ^ field)));
                voice(60 + m, field, 1, 100, 2 * (hears + 1) - (1 - m));
                voice(60 + m, field, 3, 100, 2 * (hears + 1) - (1 - m) ^ fears);
            }
        }
    }

    private static void bodies(int kind, int act, int... due) {
        FieldsTold x = Edges.road(10 * kind + 5, 1);
        x.voice(0, act, 2);
        Checks.same("P27 bodies of kind " + kind + ", act " + act, x.count(8), due.length);
        for (int i = 0; i < due.length; i++) {
            Checks.same("P27 body " + i + " of kind " + kind + ", act " + act, x.trace(i), due[i]);
        }
        Checks.same("P27 behind the last of kind " + kind + ", act " + act, x.trace(due.length), Checks.NONE);
    }

    /** Terms, VOICES: "the BODY of its KIND, or of the next KIND above that has one": each KIND, each act. */
    private static void p26VoiceOfTheNextKindAbove() {
        int[][] hears = {{10}, {20, 10}, {10}, {10}, {20, 10}, {10}, {10}};
        int[][] says = {{11, 10}, {11, 20, 10}, {11, 10}, {40, 11, 10, 12}, {11, 20, 10}, {11, 10}, {70, 40, 11, 10, 12}};
        int[][] fears = {{12}, {12}, {30, 12}, {12}, {12}, {60, 30, 12}, {12}};
        int[][] tells = {{13, 11, 10, 12}, {13, 11, 20, 10, 12}, {13, 11, 10, 30, 12}, {13, 40, 11, 10, 12, 12},
            {50, 13, 11, 20, 10, 12, 20, 10}, {61, 11, 10, 13, 11, 10, 60, 30, 12}, {13, 70, 40, 11, 10, 12, 12}};
        for (int kind = 0; kind < 7; kind++) {
            bodies(kind, 0, hears[kind]);
            bodies(kind, 1, says[kind]);
            bodies(kind, 2, fears[kind]);
            bodies(kind, 3, tells[kind]);
        }
    }

    private static FieldsTold traced() {
        FieldsTold x = Edges.road(55, 1);
        x.voice(0, 3, 4);
        return x;
    }

    /** Promise 27: "NONE: there is none such.": from 0 to the last BODY. */
    private static void p27TraceNone() {
        for (int i : new int[] {LEAST, -1, 9, 10, 39, 40, 41, MOST}) {
            Edges.refused("P27 trace(" + i + ") of nine", EdgesOfRestTest::traced, x -> x.trace(i), Checks.NONE);
        }
        for (int i : new int[] {LEAST, -1, 0, 1, 39, 40, MOST}) {
            Edges.refused("P27 trace(" + i + ") at first", Edges::tenFields, x -> x.trace(i), Checks.NONE);
        }
        Edges.allowed("P27 the first of nine", EdgesOfRestTest::traced, x -> x.trace(0), 61);
        Edges.allowed("P27 the last of nine", EdgesOfRestTest::traced, x -> x.trace(8), 12);
    }

    /** Terms, VOICES: "THE TRACE: the numbers of BODIES of the latest voice()": none of the one ahead stays. */
    private static void p27TraceOfTheLatest() {
        FieldsTold x = traced();
        x.voice(0, 0, 4);
        Checks.same("P27 one body", x.count(8), 1);
        Checks.same("P27 the body", x.trace(0), 10);
        Checks.same("P27 none of the one ahead", x.trace(1), Checks.NONE);
        x.become(0, 0);
        Checks.same("P27 it stays by a kind", x.trace(0), 10);
    }

    /** Terms, ERRORS: "changes nothing": a refused voice() leaves THE TRACE. */
    private static void p27TraceStaysByAnError() {
        Edges.refused("P27 a refused voice", EdgesOfRestTest::traced, x -> x.voice(1, 0, 0), Checks.BEYOND);
        Edges.refused("P27 a refused voice", EdgesOfRestTest::traced, x -> x.voice(0, 4, 0), Checks.BEYOND);
        Edges.refused("P27 a refused voice", EdgesOfRestTest::traced, x -> x.voice(0, -1, 0), Checks.BEYOND);
    }

    /** Terms, VOICES: "the first 40": no VOICE has more than 9 BODIES, so all are in THE TRACE. */
    private static void p27TraceIsAtMost40() {
        int most = 0;
        for (int km = 0; km < 70; km++) {
            FieldsTold x = Edges.road(km, 1);
            for (int act = 0; act < 4; act++) {
                x.voice(0, act, MOST);
                most = Math.max(most, x.count(8));
            }
        }
        Checks.same("P27 the longest trace", most, 9);
    }

    /** Promise 33: "in place of one ahead: how often that was done", also across restore(). */
    private static void p33ImageHowOften() {
        FieldsTold x = new FieldsTold();
        for (int i = 1; i <= 100; i++) {
            Checks.same("P33 how often", x.image(), i);
            if (i % 3 == 0) {
                x.restore();
            }
        }
        Checks.same("P33 no error", Edges.errorsOf(x), 0);
    }

    /** Promise 33: "is kept as an IMAGE, in place of one ahead". */
    private static void p33ImageInPlaceOfOneAhead() {
        FieldsTold x = Edges.road(0, 1);
        x.image();
        x.tells(1, 0);
        x.image();
        x.tells(1, 0);
        Checks.same("P33 the latest", x.restore(), 1);
        Checks.same("P33 its tellings", x.ofField(0, 9), 1);
        Checks.same("P33 nobody is told more by it", x.restore(), 1);
    }

    /** Promise 34: "NONE: there is none.". */
    private static void p34RestoreNone() {
        Edges.refused("P34 no image", Edges::bare, FieldsTold::restore, Checks.NONE);
        Edges.refused("P34 no image", Edges::tenFields, FieldsTold::restore, Checks.NONE);
        Edges.allowed("P34 an image of nothing", EdgesOfRestTest::imageOfNothing, FieldsTold::restore, 0);
        FieldsTold x = imageOfNothing();
        x.field(0, 1);
        Checks.same("P34 an image of nothing", x.restore(), 0);
        Checks.same("P34 no fields then", x.count(0), 0);
        Checks.same("P34 no field 0", x.ofField(0, 0), Checks.BEYOND);
    }

    private static FieldsTold imageOfNothing() {
        FieldsTold x = new FieldsTold();
        x.image();
        return x;
    }

    /** Promise 33: "All ..": FIELDS, FEARS, PACE, TEXTS, THE TAPE, what waits, z, MINUTE, LOST. */
    private static void p34RestoreAll() {
        FieldsTold x = Edges.road(0, 5);
        Checks.tell(x, 1, 4, 3);
        x.tells(2, 4);
        Checks.feed(x, "n+1");
        x.tell(-1);
        x.image();
        String due = Checks.all(x);
        x.set(4, 0, 5);
        x.set(4, 1, 5);
        x.become(4, 43);
        x.tells(3, 0);
        x.fear(0, 7);
        x.pace(20);
        x.seed(0);
        Checks.same("P34 another text", x.text(1), 1);
        Checks.same("P34 another title", Checks.read(x, 0, "1"), 1);
        Checks.feed(x, "9999");
        x.check();
        x.tell(7);
        x.forgets(4);
        x.become(4, 3);
        x.tells(1, 4);
        x.tells(2, 4);
        Checks.same("P34 LOST since", x.count(2), 2);
        for (int again = 0; again < 2; again++) {
            Checks.same("P34 MINUTE", x.restore(), 4);
            Checks.isTrue("P34 all is as in the image", due.equals(Checks.all(x)));
        }
        Checks.same("P34 LOST", x.count(2), 1);
        Checks.same("P34 what waits", x.check(), 0);
        Checks.same("P34 the tape", x.text(0), 1);
        Checks.same("P34 its text", x.law(0, 4, 0, 0), 5);
    }

    /** Promise 33: "(but SHEETS, THE TRACE, what told() tells, and how often this was done)". */
    private static void p34RestoreLeavesTheRest() {
        FieldsTold x = Edges.road(55, 3);
        Checks.row(x, 0, 8, 1, 2, 3);
        x.image();
        Checks.row(x, 0, 16, 4, 5);
        x.sheet(1, 8, 1);
        x.voice(0, 3, 1);
        x.coach(3);
        x.image();
        x.sheet(1, 0, 0);
        x.voice(0, 2, 1);
        x.coach(3);
        Checks.same("P34 restore", x.restore(), 0);
        Checks.same("P34 sheets stay", x.acres(0), 2);
        Checks.same("P34 sheets stay", x.ofField(1, 2), 5);
        Checks.same("P34 sheets stay missing", x.judge(1), Checks.NONE);
        Checks.same("P34 the trace stays", x.count(8), 3);
        Checks.same("P34 the trace stays", x.trace(0), 60);
        Checks.same("P34 what is told stays", x.told(1), 2);
        Checks.same("P34 what is told stays", x.told(2), 1);
        Checks.same("P34 how often stays", x.image(), 3);
    }

    /** Promise 34: "MINUTE": 0 and 9999. */
    private static void p34RestoreMinute() {
        FieldsTold x = Edges.lateRoad();
        x.tells(0, 0);
        x.image();
        Checks.same("P34 the last minute", x.restore(), 9999);
        Checks.same("P34 the last minute", x.tells(1, 0), Checks.STATE);
        FieldsTold y = Edges.road(0, 1);
        y.image();
        Checks.tell(y, 1, 0, 9);
        Checks.same("P34 the first minute", y.restore(), 0);
        Checks.same("P34 the first minute", y.tells(1, 0), -1);
    }

    private static FieldsTold waiting(int numbers) {
        FieldsTold x = Edges.road(0, 10);
        for (int i = 0; i < numbers; i++) {
            x.tell(-1);
        }
        return x;
    }

    /** Promise 35: "FULL: 20 wait.". */
    private static void p35TellFull() {
        Edges.allowed("P35 the first", () -> waiting(0), x -> x.tell(5), 1);
        Edges.allowed("P35 the 20th", () -> waiting(19), x -> x.tell(5), 20);
        Edges.refused("P35 the 21st", () -> waiting(20), x -> x.tell(5), Checks.FULL);
        Edges.refused("P35 the 21st, as the 20th", () -> waiting(20), x -> x.tell(-1), Checks.FULL);
        FieldsTold x = waiting(20);
        Checks.same("P35 all are so", x.check(), 0);
        Checks.same("P35 room again", x.tell(0), 1);
    }

    /** Promise 35: "One more number": any int waits as it is. */
    private static void p35TellAnyNumber() {
        for (int v : new int[] {LEAST, MOST, -2, 4, 255, 65535, Checks.BEYOND}) {
            FieldsTold x = waiting(0);
            Checks.same("P35 any number", x.tell(v), 1);
            Checks.same("P35 no error", Edges.errorsOf(x), 0);
            Checks.same("P35 it isn't so", x.check(), 1);
        }
    }

    /** Promise 36: "The numbers that wait .. are what MOWERS .. SAY now: 0": also if none wait. */
    private static void p36CheckNoneWait() {
        Edges.allowed("P36 none wait, no fields", Edges::bare, FieldsTold::check, 0);
        Edges.allowed("P36 none wait", Edges::tenFields, FieldsTold::check, 0);
        Edges.allowed("P36 fewer than fields", () -> waiting(1), FieldsTold::check, 0);
        Edges.allowed("P36 as many as fields", () -> waiting(10), FieldsTold::check, 0);
        Edges.allowed("P36 more than fields", () -> waiting(11), FieldsTold::check, 0);
        Edges.allowed("P36 as many as can be", () -> waiting(20), FieldsTold::check, 0);
    }

    /** Promise 36: "else 1 and the place (from 0) of the first that isn't so": each place, two wrong ones. */
    private static void p36CheckThePlace() {
        for (int wrong = 0; wrong < 20; wrong++) {
            FieldsTold x = waiting(wrong);
            x.tell(2);
            for (int i = wrong + 1; i < 20; i++) {
                x.tell(i == 19 ? 3 : -1);
            }
            Checks.same("P36 the first is wrong at " + wrong, x.check(), 1 + wrong);
        }
    }

    /** Promise 36: "(-1: none, or no such FIELD)". */
    private static void p36CheckNoSuchField() {
        FieldsTold x = Edges.road(10, 2);
        int[][] rows = {{0, 0}, {0, 0, -1}, {0, 0, 0}, {0, -1}, {-1}, {0, 0, -1, 0}};
        int[] due = {0, 0, 3, 2, 1, 4};
        for (int i = 0; i < rows.length; i++) {
            for (int v : rows[i]) {
                x.tell(v);
            }
            Checks.same("P36 row " + i, x.check(), due[i]);
        }
        FieldsTold y = new FieldsTold();
        y.tell(-1);
        Checks.same("P36 no fields: -1", y.check(), 0);
        y.tell(0);
        Checks.same("P36 no fields: 0", y.check(), 1);
    }

    /** Promise 36: "(none do then)", be they so or not. */
    private static void p36CheckNoneDoThen() {
        FieldsTold x = waiting(3);
        Checks.same("P36 all so", x.check(), 0);
        Checks.same("P36 none do then", x.count(7), 0);
        x.tell(0);
        x.tell(0);
        Checks.same("P36 not so", x.check(), 1);
        Checks.same("P36 none do then", x.count(7), 0);
        Checks.same("P36 none do then", x.check(), 0);
        Checks.same("P36 the first again", x.tell(0), 1);
    }

    /** Promise 37: "BEYOND.". */
    private static void p37CountBeyond() {
        Edges.bounds("P37 what", Edges::rich, FieldsTold::count, 0, 9);
        Edges.bounds("P37 what at first", Edges::bare, FieldsTold::count, 0, 9);
    }

    /** Promise 37: each of what it counts, full. */
    private static void p37CountFromLeastToMost() {
        FieldsTold x = Edges.tenFields();
        Checks.same("P37 fields", x.count(0), 10);
        Checks.same("P37 nobody's: all", x.count(3), 10);
        for (int i = 0; i < 10; i++) {
            for (int owner = 0; owner < 4; owner++) {
                Checks.tell(x, owner, i, 9);
            }
        }
        Checks.same("P37 minutes", x.count(1), 360);
        Checks.same("P37 tellings by all together", x.count(5), 360);
        Checks.same("P37 nobody's: none", x.count(3), 0);
        Checks.same("P37 lost: thrice each", x.count(2), 30);
        for (int i = 0; i < 50; i++) {
            x.feed('n', 1);
        }
        Checks.same("P37 bytes", x.count(6), 50);
        for (int i = 0; i < 20; i++) {
            x.tell(i);
        }
        Checks.same("P37 numbers that wait", x.count(7), 20);
        x.pace(20);
        Checks.same("P37 pace", x.count(4), 20);
        Checks.same("P37 bodies at first", x.count(8), 0);
    }

    /** Promise 37: "9 z (any number)". */
    private static void p37CountAnyZ() {
        for (int z : new int[] {LEAST, MOST, 0, -1, Checks.BEYOND, Checks.NONE, Checks.KIND}) {
            FieldsTold x = new FieldsTold();
            x.seed(z);
            Checks.same("P37 any z", x.count(9), z);
            Checks.same("P37 no error", Edges.errorsOf(x), 0);
        }
    }

    /** Promise 38: "(k 1 .. 5); BEYOND: another k (counted, too)". */
    private static void p38ToldBeyond() {
        Edges.bounds("P38 k", Edges::rich, FieldsTold::told, 1, 5);
        FieldsTold x = new FieldsTold();
        int errors = 0;
        for (int k : new int[] {0, 6, -1, LEAST, MOST, -1000000001}) {
            Checks.same("P38 k " + k, x.told(k), Checks.BEYOND);
            errors++;
            Checks.same("P38 counted, too", x.told(1), errors);
        }
        for (int k = 2; k <= 5; k++) {
            Checks.same("P38 none of the others", x.told(k), 0);
        }
    }

    /** Promise 38: "How many acts have answered an ERROR LOW - k": each k by itself, from 0 on. */
    private static void p38ToldEachByItself() {
        FieldsTold x = Edges.road(0, 10);
        for (int i = 0; i < 20; i++) {
            x.tell(0);
        }
        for (int i = 1; i <= 40; i++) {
            x.coach(10);
            x.restore();
            x.sheet(0, 8, -1);
            x.tell(0);
            x.as(0, 1);
        }
        x.field(0, 1);
        x.trace(0);
        for (int k = 1; k <= 5; k++) {
            Checks.same("P38 told(" + k + ")", x.told(k), k == 2 || k == 4 ? 41 : 40);
        }
    }

    /** Promise 38: "acts that have answered an ERROR": answers of any number and of faults are none. */
    private static void p38ToldOfErrorsAlone() {
        FieldsTold x = Edges.road(0, 1);
        x.seed(Checks.BEYOND);
        x.seed(Checks.NONE);
        x.count(9);
        x.voice(0, 0, Checks.STATE);
        Checks.read(x, 0, "n");
        x.law(0, Checks.FULL, 0, 0);
        Checks.read(x, 0, "n+");
        x.tells(0, 0);
        x.ofField(0, 7);
        x.judge(0);
        Checks.same("P38 told(2)", x.told(2), 1);
        Checks.same("P38 all told", Edges.errorsOf(x), 1);
    }
}
