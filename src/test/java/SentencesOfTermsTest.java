/**
 * The document from its first line to Terms, 2: each remark quotes sentences as a whole, its values worked out without
 * the class.
 */
final class SentencesOfTermsTest {
    private SentencesOfTermsTest() {
    }

    public static void main(String[] args) {
        whatItIs();
        usedFor512Calls();
        errors();
        errorsInOrder();
        quotients();
        fields();
        owners();
        tellings();
        saysTheLast();
        saysTheRestBy4();
        saysTheFirst();
        saysTheMostFeared();
        saysAsParrots();
        saysAsEchoes();
        saysAsSilentOnes();
        hears();
        titles();
        fieldsOfOwners();
        lost();
        aTelling();
        minutes();
        readsT();
        readsAAndB();
        readsSAndP();
        readsQ();
        worksOut();
        faults();
        usesTitle();
        usesRent();
        Checks.end("SentencesOfTermsTest");
    }

    /** A road of three plain mowers, told in this order: 2 twice, 1 thrice, 3 thrice, 0 once; the others not. */
    private static FieldsTold gossip(int at) {
        FieldsTold x = new FieldsTold();
        for (int i = 0; i < 3; i++) {
            x.field(0, 10 * (i + 1));
        }
        Checks.tell(x, 2, at, 2);
        Checks.tell(x, 1, at, 3);
        Checks.tell(x, 3, at, 3);
        Checks.tell(x, 0, at, 1);
        return x;
    }

    private static void says(FieldsTold x, int field, int km, int due) {
        x.become(field, km);
        Checks.same("km " + km + " in field " + field + " SAYS", x.ofField(field, 6), due);
    }

    /**
     * What it is: "Whose fields are these: a cat runs ahead of a coach and tells each mower to say it is my lord's, and
     * what everybody says is so, by that country's law, on the third telling; fields along a road with acres, mowers of
     * kinds, deaf, fearful, loyal ones, parrots, echoes, silent ones, who were told by owners, how often, first and
     * last; fears of owners, ditches that slow the coach, titles by a law; what each says, whose is what, the first
     * title lost, how often one must tell, the most acres that a runner gains ahead of the coach, two runners by turns,
     * one telling by which all say so, fears by which they say so, what silence is worth, odds of those who err;
     * tellings by draws; laws in texts, rows, images."
     */
    private static void whatItIs() {
        int[] kms = {5, 21, 30, 52, 53, 63};
        FieldsTold x = new FieldsTold();
        for (int i = 0; i < kms.length; i++) {
            x.field(kms[i], 10 + i);
        }
        for (int time = 1; time <= 3; time++) {
            for (int i = 0; i < kms.length; i++) {
                Checks.same("telling " + time + " to mower " + i, x.tells(2, i), time == 3 ? 2 : -1);
            }
        }
        for (int i = 0; i < kms.length; i++) {
            Checks.same("the first that told mower " + i, x.ofField(i, 4), 2);
            Checks.same("my lord's, says mower " + i, x.ofField(i, 6), 2);
        }
        Checks.same("all acres are my lord's", x.ofOwner(2, 2), 10 + 11 + 12 + 13 + 14 + 15);
        Checks.same("none is lost", x.count(2), 0);
        Checks.same("the ogre tells the first mower", x.tells(1, 0), -1);
        Checks.same("the first title lost", x.count(2), 1);
    }

    /**
     * What it is: "An object is used for at most 512 calls after it has been made; what later calls answer is free."
     */
    private static void usedFor512Calls() {
        FieldsTold x = new FieldsTold();
        for (int call = 1; call <= 511; call++) {
            Checks.same("call " + call, x.coach(0), Checks.BEYOND);
        }
        Checks.same("call 512", x.told(1), 511);
        FieldsTold y = Edges.road(0, 10);
        for (int call = 11; call <= 510; call++) {
            Checks.same("call " + call, y.image(), call - 10);
        }
        Checks.same("call 511", y.restore(), 0);
        Checks.same("call 512", y.gain(3, 0), 990);
    }

    /**
     * Terms: "ERRORS are answers below -1000000000: LOW is -1000000000; LOW - 1 BEYOND, LOW - 2 NONE, LOW - 3 STATE,
     * LOW - 4 FULL, LOW - 5 KIND (in longs, too)."
     */
    private static void errors() {
        FieldsTold x = Edges.road(30, 10);
        x.sheet(0, 8, 1);
        x.sheet(1, 16, 1);
        Checks.same("BEYOND", x.pace(0), -1000000001);
        Checks.same("BEYOND in longs", x.odds(-1, 0), -1000000001L);
        Checks.same("NONE", x.acres(2), -1000000002);
        Checks.same("STATE", x.sheet(0, 32, -1), -1000000003);
        Checks.same("FULL", x.field(0, 1), -1000000004);
        Checks.same("KIND", x.move(0, 0, 1, 0, 1), -1000000005);
        Checks.same("KIND", x.as(0, 1), -1000000005);
        int[] due = {2, 1, 1, 1, 2};
        for (int k = 1; k <= 5; k++) {
            Checks.same("ERRORS LOW - " + k, x.told(k), due[k - 1]);
        }
    }

    /**
     * Terms: "Each act tells its ERRORS in the order in which they are asked; one that answers an ERROR changes nothing
     * but what told() tells."
     */
    private static void errorsInOrder() {
        Edges.refused("field", Edges::tenFields, x -> x.field(0, 0), Checks.BEYOND);
        Edges.refused("as", Edges::rich, x -> x.as(9, 9), Checks.BEYOND);
        Edges.refused("tells", Edges::lateRoad, x -> x.tells(0, 9), Checks.BEYOND);
        Edges.refused("loose", Edges::bare, x -> x.loose(200), Checks.BEYOND);
        Edges.refused("feed", SentencesOfTermsTest::fullTape, x -> x.feed(0, 9), Checks.BEYOND);
        Edges.refused("feed", SentencesOfTermsTest::fullTape, x -> x.feed(0, 1), Checks.FULL);
        Edges.refused("needed", () -> Edges.road(11, 1), x -> x.needed(9, 0), Checks.BEYOND);
        Edges.refused("turns", Edges::bare, x -> x.turns(2, 2, 2), Checks.BEYOND);
        Edges.refused("one", Edges::rich, x -> x.one(3, 9), Checks.BEYOND);
        Edges.refused("one", Edges::rich, x -> x.one(3, 1), Checks.NONE);
        Edges.refused("fears", Edges::rich, x -> x.fears(3, 9), Checks.BEYOND);
        Edges.refused("sheet", Edges::rich, x -> x.sheet(9, 8, -1), Checks.BEYOND);
        Edges.refused("sheet", Edges::rich, x -> x.sheet(0, 8, -1), Checks.STATE);
        Edges.refused("put", Edges::rich, x -> x.put(3, 99, 1), Checks.NONE);
        Edges.refused("move", Edges::rich, x -> x.move(3, -1, 9, -1, -1), Checks.BEYOND);
        Edges.refused("move", Edges::rich, x -> x.move(3, -1, 0, -1, -1), Checks.NONE);
        Edges.refused("move", Edges::rich, x -> x.move(1, -1, 0, -1, -1), Checks.KIND);
        Edges.refused("told", Edges::rich, x -> x.told(0), Checks.BEYOND);
    }

    private static FieldsTold fullTape() {
        FieldsTold x = Edges.road(0, 1);
        Checks.feed(x, "n+n+n+n+n+n+n+n+n+n+n+n+n+n+n+n+n+n+n+n+n+n+n+n+n+");
        return x;
    }

    private static void gives(String text, int n, int t, int f, int due) {
        FieldsTold x = new FieldsTold();
        Checks.same("the text " + text, Checks.read(x, 0, text), 1);
        Checks.same(text + " by " + n + ", " + t + ", " + f, x.law(0, n, t, f), due);
    }

    /** Terms: "Quotients are cut." */
    private static void quotients() {
        gives("n/t", 29, 10, 0, 2);
        gives("n/t", -29, 10, 0, -2);
        gives("n/t", 29, -10, 0, -2);
        gives("n/t", -29, -10, 0, 2);
        gives("n/t/f", 29, 4, 2, 3);
    }

    /**
     * Terms, 1: "FIELDS 0, 1, .. (at most 10) lie along a road, each with ACRES (1 to 99), a DITCH ahead of it (0 to 9
     * MINUTES; 0 at first), and a MOWER of KINDS: 0 MOWER; 1 DEAF, 2 FEARFUL, 3 LOYAL under MOWER; 4 SILENT under DEAF;
     * 5 PARROT under FEARFUL; 6 ECHO under LOYAL; with a number m (0 to 9)."
     */
    private static void fields() {
        FieldsTold x = new FieldsTold();
        int[] kms = {7, 16, 25, 34, 43, 52, 61, 0, 69, 19};
        String[] under = {"0", "01", "02", "03", "014", "025", "036", "0", "036", "01"};
        for (int i = 0; i < 10; i++) {
            Checks.same("the number of a field", x.field(kms[i], 11 * i == 0 ? 1 : 11 * i), i);
        }
        Checks.same("an eleventh", x.field(0, 50), Checks.FULL);
        for (int i = 0; i < 10; i++) {
            Checks.same("acres of field " + i, x.ofField(i, 2), i == 0 ? 1 : 11 * i);
            Checks.same("the ditch of field " + i, x.ofField(i, 3), 0);
            Checks.same("m of field " + i, x.ofField(i, 1), kms[i] % 10);
            for (int kind = 0; kind < 7; kind++) {
                boolean isUnder = under[i].indexOf((char) ('0' + kind)) >= 0;
                Checks.same("field " + i + " as " + kind, x.as(i, kind), isUnder ? kms[i] % 10 : Checks.KIND);
            }
        }
    }

    /** Terms, 1: "OWNERS are 0 to 3, each with a FEAR (0 to 9; at first 0, 1, 2, 3)." */
    private static void owners() {
        FieldsTold x = Edges.road(20, 1);
        for (int owner = 0; owner < 4; owner++) {
            Checks.same("its fear", x.ofOwner(owner, 0), owner);
            x.tells(owner, 0);
            Checks.same("the one with more fear than those ahead", x.ofField(0, 6), owner);
        }
        for (int v = 0; v < 10; v++) {
            Checks.same("fear becomes " + v, x.fear(0, v), v == 0 ? 0 : v - 1);
            Checks.same("it says", x.ofField(0, 6), v < 3 ? 3 : 0);
        }
        Checks.same("owner 4", x.ofOwner(4, 0), Checks.BEYOND);
        Checks.same("fear 10", x.fear(0, 10), Checks.BEYOND);
    }

    /**
     * Terms, 1: "To each MOWER an OWNER told so many times (TELLINGS; 0 at first; 9 at most each); it knows the FIRST
     * and the LAST OWNER that told it (none at first)."
     */
    private static void tellings() {
        FieldsTold x = gossip(1);
        int[] due = {1, 3, 2, 3};
        for (int owner = 0; owner < 4; owner++) {
            Checks.same("tellings of owner " + owner, x.tellings(1, owner), due[owner]);
            Checks.same("to another mower", x.tellings(0, owner), 0);
            Checks.same("to another mower", x.tellings(2, owner), 0);
        }
        Checks.same("the first", x.ofField(1, 4), 2);
        Checks.same("the last", x.ofField(1, 5), 0);
        Checks.same("the first of one that nobody told", x.ofField(0, 4), -1);
        Checks.same("the last of one that nobody told", x.ofField(0, 5), -1);
        for (int n = 4; n <= 9; n++) {
            x.tells(3, 1);
            Checks.same("tellings of owner 3", x.tellings(1, 3), n);
        }
        Checks.same("a tenth", x.tells(3, 1), Checks.STATE);
        Checks.same("tellings by all", x.ofField(1, 9), 1 + 3 + 2 + 9);
    }

    /** Terms, 1: "SAYS (an OWNER, or none): MOWER: the LAST." */
    private static void saysTheLast() {
        FieldsTold x = gossip(0);
        says(x, 0, 3, 0);
        Checks.same("none told it", x.ofField(1, 6), -1);
        for (int owner = 3; owner >= 0; owner--) {
            x.tells(owner, 0);
            Checks.same("the last", x.ofField(0, 6), owner);
        }
    }

    /** Terms, 1: "DEAF: the one of the rest of m by 4." */
    private static void saysTheRestBy4() {
        FieldsTold x = gossip(1);
        says(x, 1, 10, 0);
        says(x, 1, 13, 3);
        says(x, 1, 14, 0);
        says(x, 1, 17, 3);
        says(x, 1, 19, 1);
        says(x, 0, 16, 2);
    }

    /** Terms, 1: "LOYAL: the FIRST." */
    private static void saysTheFirst() {
        FieldsTold x = gossip(2);
        says(x, 2, 31, 2);
        x.tells(0, 2);
        Checks.same("the first stays the first", x.ofField(2, 6), 2);
        says(x, 1, 31, -1);
        x.tells(3, 1);
        x.tells(1, 1);
        Checks.same("the first", x.ofField(1, 6), 3);
    }

    /** Terms, 1: "FEARFUL: of those that told it the one with the greatest FEAR, of several the least." */
    private static void saysTheMostFeared() {
        FieldsTold x = gossip(0);
        says(x, 0, 27, 3);
        x.fear(3, 1);
        Checks.same("2 is feared more than 1 and 3", x.ofField(0, 6), 2);
        x.fear(2, 1);
        Checks.same("of 1, 2 and 3 the least", x.ofField(0, 6), 1);
        x.fear(1, 0);
        Checks.same("of 2 and 3 the least", x.ofField(0, 6), 2);
        x.fear(0, 1);
        Checks.same("of 0, 2 and 3 the least", x.ofField(0, 6), 0);
        x.forgets(0);
        x.tells(1, 0);
        Checks.same("but of those that told it", x.ofField(0, 6), 1);
    }

    /**
     * Terms, 1: "PARROT: as FEARFUL, if m is even; else of those that told it the one with most TELLINGS, of several
     * the least."
     */
    private static void saysAsParrots() {
        FieldsTold x = gossip(0);
        says(x, 0, 50, 3);
        says(x, 0, 58, 3);
        says(x, 0, 57, 1);
        x.tells(3, 0);
        Checks.same("3 told it most", x.ofField(0, 6), 3);
        Checks.tell(x, 0, 0, 3);
        Checks.same("of 0 and 3 the least", x.ofField(0, 6), 0);
        x.fear(1, 9);
        Checks.same("fear doesn't matter by an odd m", x.ofField(0, 6), 0);
        says(x, 0, 56, 1);
        says(x, 1, 56, -1);
        says(x, 1, 57, -1);
    }

    /** Terms, 1: "ECHO: what the MOWER of the FIELD ahead (the number 1 less) SAYS; in FIELD 0 as LOYAL." */
    private static void saysAsEchoes() {
        FieldsTold x = gossip(0);
        says(x, 1, 60, 0);
        says(x, 2, 65, 0);
        says(x, 0, 23, 3);
        Checks.same("the echo of the field ahead", x.ofField(1, 6), 3);
        Checks.same("the echo of an echo", x.ofField(2, 6), 3);
        says(x, 0, 64, 2);
        Checks.same("the echo of one that is as loyal", x.ofField(2, 6), 2);
        says(x, 1, 15, 1);
        Checks.same("the echo of a deaf one", x.ofField(2, 6), 1);
        says(x, 1, 41, -1);
        Checks.same("the echo of a silent one", x.ofField(2, 6), -1);
    }

    /** Terms, 1: "SILENT: as DEAF, if the number of its FIELD is below m; else none." */
    private static void saysAsSilentOnes() {
        FieldsTold x = gossip(2);
        says(x, 2, 42, -1);
        says(x, 2, 43, 3);
        says(x, 2, 48, 0);
        says(x, 1, 41, -1);
        says(x, 1, 42, 2);
        says(x, 0, 40, -1);
        says(x, 0, 41, 1);
    }

    /** Terms, 1: "HEARS (whether a telling counts): MOWER: yes. DEAF: no. ECHO: if m is odd." */
    private static void hears() {
        int[] hearing = {0, 9, 20, 29, 30, 39, 50, 59, 61, 63, 65, 67, 69};
        int[] deaf = {10, 19, 40, 49, 60, 62, 64, 66, 68};
        for (int km : hearing) {
            FieldsTold x = gossip(1);
            x.become(1, km);
            x.tells(2, 1);
            Checks.same("km " + km + " hears", x.tellings(1, 2), 3);
            Checks.same("km " + km + " hears", x.ofField(1, 5), 2);
        }
        for (int km : deaf) {
            FieldsTold x = gossip(1);
            x.become(1, km);
            x.tells(2, 1);
            Checks.same("km " + km + " hears nothing", x.tellings(1, 2), 2);
            Checks.same("km " + km + " hears nothing", x.ofField(1, 5), 0);
            Checks.same("km " + km + " hears nothing", x.count(1), 10);
        }
    }

    /** Terms, 1: "TITLE of an OWNER to a FIELD: if the TEXT gives what isn't 0." */
    private static void titles() {
        FieldsTold x = gossip(1);
        Checks.tell(x, 0, 2, 2);
        // owner 0 told field 1 once among nine, field 2 twice among two
        String[] texts = {"n-1", "n-2", "t-9", "t-2", "n*2>t", "f", "f-7", "n*t-9", "n%2"};
        int[] ofField1 = {-1, 0, -1, 0, -1, -1, 0, -1, 0};
        int[] ofField2 = {0, -1, 0, -1, 0, -1, 0, 0, -1};
        for (int i = 0; i < texts.length; i++) {
            Checks.same("the law " + texts[i], Checks.read(x, 0, texts[i]), 1);
            Checks.same("field 1 by " + texts[i], x.ofField(1, 7), ofField1[i]);
            Checks.same("field 2 by " + texts[i], x.ofField(2, 7), ofField2[i]);
        }
    }

    /** Terms, 1: "A FIELD is of the OWNER that its MOWER SAYS, if that one has the TITLE; else of nobody." */
    private static void fieldsOfOwners() {
        FieldsTold x = gossip(1);
        int[] kms = {0, 20, 30, 51, 13, 11, 10, 43, 41};
        int[] whose = {-1, 3, -1, 1, 3, 1, -1, 3, -1};
        for (int i = 0; i < kms.length; i++) {
            x.become(1, kms[i]);
            Checks.same("whose, by km " + kms[i], x.ofField(1, 7), whose[i]);
            Checks.same("nobody's by km " + kms[i], x.count(3), whose[i] < 0 ? 3 : 2);
        }
    }

    /**
     * Terms, 1: "LOST: how often a FIELD by a telling came to be of another one, or of nobody, that was somebody's (0
     * at first; 9999 at most)." and "(LOST is counted over all FIELDS by what they were ahead of it.)"
     */
    private static void lost() {
        FieldsTold x = new FieldsTold();
        x.field(0, 1);
        x.field(61, 1);
        x.field(61, 1);
        x.field(0, 1);
        Checks.same("LOST at first", x.count(2), 0);
        for (int i = 0; i < 4; i++) {
            Checks.tell(x, 1, i, 3);
        }
        for (int i = 1; i < 3; i++) {
            Checks.tell(x, 2, i, 3);
        }
        Checks.same("all are owner 1's", x.ofOwner(1, 1), 4);
        Checks.same("LOST: echoes say what is said ahead", x.count(2), 0);
        Checks.same("owner 2 has told field 0 once", x.tells(2, 0), -1);
        Checks.same("LOST: 0 to nobody, 1 and 2 to another", x.count(2), 3);
        Checks.same("of another", x.ofOwner(2, 1), 2);
        Checks.same("LOST: by a telling to the last one", x.tells(0, 3), -1);
        Checks.same("LOST: one more", x.count(2), 4);
        Checks.same("owner 1 again", x.tells(1, 0), 1);
        Checks.same("LOST: 1 and 2 once more, 0 was nobody's", x.count(2), 6);
    }

    /**
     * Terms, 1: "A TELLING (an OWNER, a FIELD): if the MOWER HEARS: TELLINGS of that OWNER are 1 more, it is the LAST,
     * and the FIRST, if there was none."
     */
    private static void aTelling() {
        FieldsTold x = gossip(0);
        x.tells(3, 2);
        Checks.same("tellings", x.tellings(2, 3), 1);
        Checks.same("the last", x.ofField(2, 5), 3);
        Checks.same("the first", x.ofField(2, 4), 3);
        x.tells(1, 2);
        Checks.same("tellings", x.tellings(2, 1), 1);
        Checks.same("the other's tellings", x.tellings(2, 3), 1);
        Checks.same("the last", x.ofField(2, 5), 1);
        Checks.same("the first", x.ofField(2, 4), 3);
        Checks.same("another mower's last", x.ofField(0, 5), 0);
        Checks.same("another mower's tellings", x.ofField(0, 9), 9);
        x.become(2, 44);
        x.tells(0, 2);
        Checks.same("it doesn't hear", x.ofField(2, 9), 2);
        Checks.same("it doesn't hear", x.ofField(2, 5), 1);
    }

    /** Terms, 1: "MINUTE (0 to 9999; 0 at first) is 1 more." */
    private static void minutes() {
        FieldsTold x = new FieldsTold();
        Checks.same("at first", x.count(1), 0);
        x.field(0, 1);
        x.field(10, 1);
        x.tells(0, 0);
        Checks.same("a telling", x.count(1), 1);
        x.tells(0, 1);
        Checks.same("one that isn't heard", x.count(1), 2);
        x.loose(5);
        Checks.same("five by draws", x.count(1), 7);
        x.needed(1, 0);
        x.forgets(0);
        x.turns(0, 1, 4);
        Checks.same("nothing else takes a minute", x.count(1), 7);
        x.tells(4, 0);
        Checks.same("nor a telling that is refused", x.count(1), 7);
    }

    private static void reads(String text) {
        FieldsTold x = new FieldsTold();
        Checks.same("the text " + text, Checks.read(x, 0, text), 1);
    }

    private static void faults(String text, int place) {
        FieldsTold x = new FieldsTold();
        Checks.same("the text " + text, Checks.read(x, 0, text), -10 - place);
    }

    /** Terms, 2: "TEXTS are read from THE TAPE (bytes, at most 50): T: A { | A }." */
    private static void readsT() {
        gives("n|t|f", 0, 0, 4, 1);
        gives("n|t|f", 0, 0, 0, 0);
        gives("n=1|n=3|n=5", 3, 0, 0, 1);
        gives("n=1|n=3|n=5", 4, 0, 0, 0);
        faults("|n", 0);
        faults("n|", 2);
        faults("n||t", 2);
        FieldsTold x = new FieldsTold();
        Checks.feed(x, "n|t|f|n|t|f|n|t|f|n|t|f|n|t|f|n|t|f|n|t|f|n|t|f|9");
        Checks.same("a fiftieth byte", x.feed('9', 1), 50);
        Checks.same("a fifty-first", x.feed('9', 1), Checks.FULL);
        Checks.same("the text of fifty", x.text(0), 1);
        Checks.same("it gives", x.law(0, 0, 0, 0), 1);
    }

    /** Terms, 2: "A: B { & B }. B: S, or S < S, S = S, S > S." */
    private static void readsAAndB() {
        gives("n&t&f", 3, -2, 1, 1);
        gives("n&t&f", 3, 0, 1, 0);
        gives("n>2&t<9&f=1", 3, 8, 1, 1);
        gives("n>2&t<9&f=1", 3, 9, 1, 0);
        gives("n|t&f", 1, 1, 0, 1);
        gives("n|t&f", 0, 1, 0, 0);
        gives("n+1<t*2", 6, 4, 0, 1);
        gives("n+1<t*2", 7, 4, 0, 0);
        gives("n+1=t*2", 7, 4, 0, 1);
        gives("n+1>t*2", 8, 4, 0, 1);
        faults("n&", 2);
        faults("n&|t", 2);
        faults("n<t>f", 3);
        faults("n==t", 2);
        faults("n<>t", 2);
        faults("<n", 0);
    }

    /** Terms, 2: "S: P { + P, - P }. P: Q { * Q, / Q, % Q }." */
    private static void readsSAndP() {
        gives("n-t-f", 9, 5, 3, 1);
        gives("n-t+f", 9, 5, 3, 7);
        gives("n+t*f", 9, 5, 3, 24);
        gives("n*t+f", 9, 5, 3, 48);
        gives("n/t*f", 9, 5, 3, 3);
        gives("n*f/t", 9, 5, 3, 5);
        gives("n%t*f", 9, 5, 3, 12);
        gives("n*t%f-1", 7, 5, 3, 1);
        gives("n-t%f-n/t*f", 9, 5, 3, 4);
        faults("-n", 0);
        faults("n+*t", 2);
        faults("n*-t", 2);
        faults("n%", 2);
    }

    /**
     * Terms, 2: "Q: a NUMBER of 1 to 4 digits, a NAME, ! Q, ( T ). No blanks. At most 5 of ! and ( are open at once."
     */
    private static void readsQ() {
        gives("7", 0, 0, 0, 7);
        gives("0070", 0, 0, 0, 70);
        gives("f", 1, 2, 3, 3);
        gives("!n*4", 0, 0, 0, 4);
        gives("!n*4", 2, 0, 0, 0);
        gives("!!n", 2, 0, 0, 1);
        gives("(n|t)*8", 0, 3, 0, 8);
        gives("n-(t-f)", 9, 5, 3, 7);
        gives("!(n<t)", 5, 5, 0, 1);
        reads("!(!(!n))");
        reads("((((( n )))))".replace(" ", ""));
        faults("!(!(!(!n)))", 5);
        faults("00700", 4);
        faults("x", 0);
        faults("n n", 1);
        faults("(n", 2);
        faults("n!", 1);
    }

    /**
     * Terms, 2: "Ints that wrap; / cut, % the rest that it leaves, both by 0 are 0; | & < = > ! are 1 or 0, what is not
     * 0 being true; all is worked out."
     */
    private static void worksOut() {
        gives("n*t", 1000000, 1000000, 0, -727379968);
        gives("n+t", 2000000000, 2000000000, 0, -294967296);
        gives("n-t", -2000000000, 2000000000, 0, 294967296);
        gives("n/t*10+n%t", 23, 7, 0, 32);
        gives("n/t*10+n%t", -23, 7, 0, -32);
        gives("n%t", 23, -7, 0, 2);
        gives("n/t+n%t+f", 23, 0, 4, 4);
        gives("(n|t)+(n&t)*10+!n*100", -5, 0, 0, 1);
        gives("(n|t)+(n&t)*10+!n*100", -5, -6, 0, 11);
        gives("(n|t)+(n&t)*10+!n*100", 0, 0, 0, 100);
        gives("(n<t)+(n=t)*10+(n>t)*100", -5, 2, 0, 1);
        gives("(n<t)+(n=t)*10+(n>t)*100", 2, 2, 0, 10);
        gives("(n<t)+(n=t)*10+(n>t)*100", 2, -5, 0, 100);
        gives("1|n/0", 4, 0, 0, 1);
        gives("0&n%0", 4, 0, 0, 0);
    }

    /**
     * Terms, 2: "FAULT: the place of the first byte with which no TEXT goes on; how many there are, if it ends too
     * early."
     */
    private static void faults() {
        faults("n+t*", 4);
        faults("n+t*)", 4);
        faults("n+t*f)", 5);
        faults("(n+t*f", 6);
        faults("(n+t*f(", 6);
        faults("n>2&t>m", 6);
        faults("n>2>t", 3);
        faults("(n>2)>t>3", 7);
        faults("12+34567", 7);
        faults("", 0);
        faults("!", 1);
    }

    /**
     * Terms, 2: "USES: 0 TITLE, NAMES n TELLINGS by the OWNER, t TELLINGS by all, f FEAR of the OWNER; any number;
     * without a TEXT n>2."
     */
    private static void usesTitle() {
        FieldsTold x = gossip(1);
        Checks.tell(x, 3, 0, 4);
        x.become(1, 30);
        // loyal to owner 2, that told it twice among nine, with a fear of 2
        Checks.same("without a text", x.ofField(1, 7), -1);
        String[] so = {"n=2", "t=9", "f=2", "n*100+t*10+f=292", "0-n"};
        String[] notSo = {"n=3", "t=2", "t=13", "f=3", "n*100+t*10+f=293", "n-2"};
        for (String text : so) {
            Checks.same("the law " + text, Checks.read(x, 0, text), 1);
            Checks.same("by " + text, x.ofField(1, 7), 2);
        }
        for (String text : notSo) {
            Checks.same("the law " + text, Checks.read(x, 0, text), 1);
            Checks.same("by " + text, x.ofField(1, 7), -1);
        }
        x.fear(2, 7);
        Checks.read(x, 0, "f=7");
        Checks.same("by the fear as it is now", x.ofField(1, 7), 2);
        Checks.same("any number", x.law(0, 0, 0, -2000000000), 0);
        Checks.read(x, 0, "f-1");
        Checks.same("any number", x.law(0, 0, 0, -2000000000), -2000000001);
    }

    /**
     * Terms, 2: "1 RENT (of a FIELD that is somebody's), NAMES a ACRES, n TELLINGS by the OWNER, m m; held within 0 to
     * 999; without a TEXT a."
     */
    private static void usesRent() {
        FieldsTold x = gossip(1);
        x.become(1, 57);
        // 20 acres, owner 1's by three tellings, m 7
        Checks.same("without a text", x.ofField(1, 8), 20);
        String[] texts = {"a*10+n", "n*100+m", "a-n*m", "n-4", "a*a*n", "a*50-1", "a*50", "t", "m/n"};
        int[] due = {203, 307, 0, 0, 999, 999, 999, 999, 2};
        for (int i = 0; i < texts.length; i++) {
            boolean isText = texts[i].indexOf('t') < 0;
            Checks.same("the rent " + texts[i], Checks.read(x, 1, texts[i]), isText ? 1 : -10);
            Checks.same("by " + texts[i], x.ofField(1, 8), due[i]);
            Checks.same("nobody's", x.ofField(2, 8), 0);
        }
        x.set(1, 0, 90);
        Checks.read(x, 1, "a*m+n");
        Checks.same("of 90 acres", x.ofField(1, 8), 633);
        Checks.same("all its rents", x.ofOwner(1, 3), 633);
    }
}
