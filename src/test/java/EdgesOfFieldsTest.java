/** The edges that promises 1 to 13 name: fields, owners, the pace, tellings by owners and by draws. */
final class EdgesOfFieldsTest {
    private EdgesOfFieldsTest() {
    }

    public static void main(String[] args) {
        p1NoFields();
        p1AllAsAtFirst();
        p2FieldBeyond();
        p2FieldFull();
        p2FieldBeyondAheadOfFull();
        p2FieldIsOneThatNobodyTold();
        p3OfFieldBeyond();
        p3OfFieldNone();
        p3OfFieldRent();
        p3OfFieldTellingsByAll();
        p4TellingsBeyond();
        p5OfOwnerBeyond();
        p5OfOwnerOfNoneAndOfAll();
        p6BecomeBeyond();
        p6BecomeWhatItWasToldStays();
        p7AsBeyond();
        p7AsKind();
        p7AsBeyondAheadOfKind();
        p8SetBeyond();
        p8SetWhatItWas();
        p9FearBeyond();
        p9FearWhatItWas();
        p10PaceBeyond();
        p10PaceWhatItWas();
        p11ForgetsBeyond();
        p11ForgetsHowMany();
        p12TellsBeyond();
        p12TellsStateBy9();
        p12TellsStateByTheLastMinute();
        p12TellsBeyondAheadOfState();
        p12TellsWhoseItIsThen();
        p13LooseBeyond();
        p13LooseState();
        p13LooseBeyondAheadOfState();
        p13LooseLeavesOutWhatStateWouldRefuse();
        p13LooseInTheLastMinute();
        p13LooseDrawsAreInts();
        Checks.end("EdgesOfFieldsTest");
    }

    /** Promise 1: "no FIELDS": each act on field 0 is BEYOND. */
    private static void p1NoFields() {
        Checks.same("P1 fields", new FieldsTold().count(0), 0);
        Edges.refused("P1 ofField", Edges::bare, x -> x.ofField(0, 0), Checks.BEYOND);
        Edges.refused("P1 tellings", Edges::bare, x -> x.tellings(0, 0), Checks.BEYOND);
        Edges.refused("P1 become", Edges::bare, x -> x.become(0, 0), Checks.BEYOND);
        Edges.refused("P1 as", Edges::bare, x -> x.as(0, 0), Checks.BEYOND);
        Edges.refused("P1 set", Edges::bare, x -> x.set(0, 0, 1), Checks.BEYOND);
        Edges.refused("P1 forgets", Edges::bare, x -> x.forgets(0), Checks.BEYOND);
        Edges.refused("P1 tells", Edges::bare, x -> x.tells(0, 0), Checks.BEYOND);
        Edges.refused("P1 needed", Edges::bare, x -> x.needed(0, 0), Checks.BEYOND);
        Edges.refused("P1 coach", Edges::bare, x -> x.coach(0), Checks.BEYOND);
        Edges.refused("P1 silence", Edges::bare, x -> x.silence(0, 0), Checks.BEYOND);
        Edges.refused("P1 voice", Edges::bare, x -> x.voice(0, 0, 0), Checks.BEYOND);
    }

    /** Promise 1: "All as at first". */
    private static void p1AllAsAtFirst() {
        FieldsTold x = new FieldsTold();
        int[] counts = {0, 0, 0, 0, 4, 0, 0, 0, 0, 1};
        for (int what = 0; what < 10; what++) {
            Checks.same("P1 count(" + what + ")", x.count(what), counts[what]);
        }
        for (int k = 1; k <= 5; k++) {
            Checks.same("P1 told(" + k + ")", x.told(k), 0);
        }
        for (int sheet = 0; sheet < 4; sheet++) {
            Checks.same("P1 a sheet is missing", x.acres(sheet), Checks.NONE);
            Checks.same("P1 fear", x.ofOwner(sheet, 0), sheet);
        }
        Checks.same("P1 no image", x.restore(), Checks.NONE);
        Checks.same("P1 no trace", x.trace(0), Checks.NONE);
        Checks.same("P1 none waits", x.check(), 0);
        Checks.same("P1 the tape is empty", x.text(0), -10);
        Checks.same("P1 TITLE without a text", x.law(0, 3, 0, 0), 1);
        Checks.same("P1 RENT without a text", x.law(1, 5, 0, 0), 5);
    }

    /** Promise 2: "BEYOND.", of km and of ACRES. */
    private static void p2FieldBeyond() {
        Edges.bounds("P2 km", Edges::rich, (x, v) -> x.field(v, 1), 0, 69);
        Edges.bounds("P2 acres", Edges::rich, (x, v) -> x.field(0, v), 1, 99);
        Edges.allowed("P2 the least", Edges::rich, x -> x.field(0, 1), 7);
        Edges.allowed("P2 the most", Edges::rich, x -> x.field(69, 99), 7);
    }

    /** Promise 2: "FULL.", and Terms, 1: "(at most 10)". */
    private static void p2FieldFull() {
        FieldsTold x = new FieldsTold();
        for (int i = 0; i < 10; i++) {
            Checks.same("P2 its number", x.field(0, 1), i);
        }
        Checks.same("P2 an eleventh", x.field(0, 1), Checks.FULL);
        Edges.allowed("P2 the tenth", () -> Edges.road(0, 9), y -> y.field(0, 1), 9);
        Edges.refused("P2 the eleventh", Edges::tenFields, y -> y.field(0, 1), Checks.FULL);
        Edges.refused("P2 the eleventh", Edges::tenFields, y -> y.field(69, 99), Checks.FULL);
    }

    /** Promise 2: "BEYOND. FULL.", in this order. */
    private static void p2FieldBeyondAheadOfFull() {
        Edges.refused("P2 km, on a full road", Edges::tenFields, x -> x.field(70, 1), Checks.BEYOND);
        Edges.refused("P2 km, on a full road", Edges::tenFields, x -> x.field(-1, 1), Checks.BEYOND);
        Edges.refused("P2 acres, on a full road", Edges::tenFields, x -> x.field(0, 0), Checks.BEYOND);
        Edges.refused("P2 acres, on a full road", Edges::tenFields, x -> x.field(0, 100), Checks.BEYOND);
    }

    /** Promise 2: "with a MOWER .. that nobody told", also where another FIELD stood ahead of restore(). */
    private static void p2FieldIsOneThatNobodyTold() {
        FieldsTold x = new FieldsTold();
        x.image();
        x.field(39, 50);
        x.set(0, 1, 9);
        Checks.tell(x, 1, 0, 9);
        Checks.same("P2 restore", x.restore(), 0);
        Checks.same("P2 a field anew", x.field(0, 1), 0);
        int[] due = {0, 0, 1, 0, -1, -1, -1, -1, 0, 0};
        for (int what = 0; what < 10; what++) {
            Checks.same("P2 ofField(0, " + what + ") anew", x.ofField(0, what), due[what]);
        }
        Checks.same("P2 its tellings", x.tellings(0, 1), 0);
    }

    /** Promise 3: "BEYOND.", of the FIELD and of what. */
    private static void p3OfFieldBeyond() {
        Edges.bounds("P3 field of seven", Edges::rich, (x, v) -> x.ofField(v, 0), 0, 6);
        Edges.bounds("P3 field of ten", Edges::tenFields, (x, v) -> x.ofField(v, 9), 0, 9);
        Edges.bounds("P3 what", Edges::rich, (x, v) -> x.ofField(6, v), 0, 9);
    }

    /** Promise 3: "(-1: none)", "(-1)", "(-1: nobody's)", "(0: nobody's)": no ERRORS. */
    private static void p3OfFieldNone() {
        Edges.allowed("P3 no first", () -> Edges.road(0, 1), x -> x.ofField(0, 4), -1);
        Edges.allowed("P3 no last", () -> Edges.road(0, 1), x -> x.ofField(0, 5), -1);
        Edges.allowed("P3 says none", () -> Edges.road(0, 1), x -> x.ofField(0, 6), -1);
        Edges.allowed("P3 nobody's", () -> Edges.road(0, 1), x -> x.ofField(0, 7), -1);
        Edges.allowed("P3 nobody's rent", () -> Edges.road(0, 1), x -> x.ofField(0, 8), 0);
        Edges.allowed("P3 said, nobody's", () -> Edges.road(13, 1), x -> x.ofField(0, 7), -1);
        Edges.allowed("P3 said, nobody's rent", () -> Edges.road(13, 1), x -> x.ofField(0, 8), 0);
    }

    /** Promise 3: "8 RENT (0: nobody's)", and Terms, RENT: "held within 0 to 999". */
    private static void p3OfFieldRent() {
        FieldsTold x = Edges.road(19, 1);
        Checks.read(x, 0, "1");
        Checks.same("P3 a rent without a text", x.ofField(0, 8), 99);
        String[] texts = {"a*10+9", "a*10+m+1", "a*9999", "0", "0-1", "m-a", "4096*4096*128", "4096*4096*128-1", "m-8"};
        int[] due = {999, 999, 999, 0, 0, 0, 0, 999, 1};
        for (int i = 0; i < texts.length; i++) {
            Checks.same("P3 a rent's text " + texts[i], Checks.read(x, 1, texts[i]), 1);
            Checks.same("P3 rent by " + texts[i], x.ofField(0, 8), due[i]);
        }
        Checks.same("P3 a rent's text", Checks.read(x, 1, "n"), 1);
        Checks.same("P3 n TELLINGS by the OWNER, told by nobody", x.ofField(0, 8), 0);
        Checks.same("P3 nobody has the title", Checks.read(x, 0, "0"), 1);
        Checks.same("P3 a rent's text", Checks.read(x, 1, "999"), 1);
        Checks.same("P3 nobody's rent", x.ofField(0, 8), 0);
        x.become(0, 10);
        Checks.same("P3 all have the title", Checks.read(x, 0, "1"), 1);
        Checks.same("P3 owner 0 isn't nobody", x.ofField(0, 8), 999);
    }

    /** Promise 3: "9 TELLINGS by all": 0 to 36. */
    private static void p3OfFieldTellingsByAll() {
        FieldsTold x = Edges.road(0, 1);
        for (int i = 0; i < 36; i++) {
            Checks.same("P3 tellings by all", x.ofField(0, 9), i);
            x.tells(i / 9, 0);
        }
        Checks.same("P3 tellings by all", x.ofField(0, 9), 36);
    }

    /** Promise 4: "BEYOND.", of the FIELD and of the OWNER. */
    private static void p4TellingsBeyond() {
        Edges.bounds("P4 field of seven", Edges::rich, (x, v) -> x.tellings(v, 3), 0, 6);
        Edges.bounds("P4 field of ten", Edges::tenFields, (x, v) -> x.tellings(v, 0), 0, 9);
        Edges.bounds("P4 owner", Edges::rich, (x, v) -> x.tellings(6, v), 0, 3);
        FieldsTold x = Edges.road(0, 2);
        Checks.tell(x, 3, 1, 9);
        Checks.same("P4 nine", x.tellings(1, 3), 9);
        Checks.same("P4 none", x.tellings(1, 2), 0);
        Checks.same("P4 none", x.tellings(0, 3), 0);
    }

    /** Promise 5: "BEYOND.", of the OWNER and of what. */
    private static void p5OfOwnerBeyond() {
        Edges.bounds("P5 owner", Edges::rich, (x, v) -> x.ofOwner(v, 0), 0, 3);
        Edges.bounds("P5 owner without fields", Edges::bare, (x, v) -> x.ofOwner(v, 3), 0, 3);
        Edges.bounds("P5 what", Edges::rich, (x, v) -> x.ofOwner(3, v), 0, 3);
    }

    /** Promise 5: "1 how many FIELDS are of that one, 2 ACRES of them, 3 RENTS of them": of none and of all ten. */
    private static void p5OfOwnerOfNoneAndOfAll() {
        FieldsTold x = Edges.road(13, 10);
        for (int what = 1; what < 4; what++) {
            Checks.same("P5 of none", x.ofOwner(3, what), 0);
        }
        Checks.read(x, 0, "1");
        Checks.read(x, 1, "9999");
        int[] due = {3, 10, 990, 9990};
        for (int what = 0; what < 4; what++) {
            Checks.same("P5 of all ten, what " + what, x.ofOwner(3, what), due[what]);
        }
        x.become(9, 10);
        int[] then = {3, 9, 891, 8991};
        for (int what = 0; what < 4; what++) {
            Checks.same("P5 of nine, what " + what, x.ofOwner(3, what), then[what]);
        }
        Checks.same("P5 of the tenth", x.ofOwner(0, 1), 1);
    }

    /** Promise 6: "BEYOND.", of the FIELD and of km. */
    private static void p6BecomeBeyond() {
        Edges.bounds("P6 field of seven", Edges::rich, (x, v) -> x.become(v, 0), 0, 6);
        Edges.bounds("P6 field of ten", Edges::tenFields, (x, v) -> x.become(v, 69), 0, 9);
        Edges.bounds("P6 km", Edges::rich, (x, v) -> x.become(6, v), 0, 69);
        Edges.allowed("P6 the kind that it was", Edges::rich, x -> x.become(0, 69), 0);
        Edges.allowed("P6 the kind that it was", Edges::rich, x -> x.become(6, 0), 6);
        Edges.allowed("P6 the kind that it was", Edges::rich, x -> x.become(5, 55), 5);
    }

    /** Promise 6: "what it was told stays", also through a kind that hears nothing. */
    private static void p6BecomeWhatItWasToldStays() {
        FieldsTold x = Edges.road(0, 1);
        Checks.tell(x, 3, 0, 9);
        Checks.tell(x, 0, 0, 1);
        for (int kind : new int[] {1, 4, 6, 5, 0}) {
            x.become(0, 10 * kind);
            Checks.same("P6 the first stays", x.ofField(0, 4), 3);
            Checks.same("P6 the last stays", x.ofField(0, 5), 0);
            Checks.same("P6 tellings stay", x.tellings(0, 3), 9);
            Checks.same("P6 tellings stay", x.ofField(0, 9), 10);
            Checks.same("P6 acres stay", x.ofField(0, 2), 99);
        }
    }

    /** Promise 7: "BEYOND.", of the FIELD and of the KIND. */
    private static void p7AsBeyond() {
        Edges.bounds("P7 field of seven", Edges::rich, (x, v) -> x.as(v, 0), 0, 6);
        Edges.bounds("P7 field of ten", Edges::tenFields, (x, v) -> x.as(v, 0), 0, 9);
        Edges.bounds("P7 kind", Edges::rich, (x, v) -> x.as(6, v), 0, 6);
    }

    /** Promise 7: "KIND: it isn't of that KIND, nor of one under it": each of each. */
    private static void p7AsKind() {
        String[] rows = {"0", "01", "02", "03", "014", "025", "036"};
        for (int kind = 0; kind < 7; kind++) {
            int km = 10 * kind + kind;
            for (int of = 0; of < 7; of++) {
                if (rows[kind].indexOf('0' + of) >= 0) {
                    Edges.allowed("P7 kind " + kind + " as " + of, () -> Edges.road(km, 1), as(of), kind);
                } else {
                    Edges.refused("P7 kind " + kind + " as " + of, () -> Edges.road(km, 1), as(of), Checks.KIND);
                }
            }
        }
        Edges.allowed("P7 the least m", () -> Edges.road(60, 1), as(3), 0);
        Edges.allowed("P7 the greatest m", () -> Edges.road(49, 1), as(1), 9);
    }

    private static Edges.Act as(int kind) {
        return x -> x.as(0, kind);
    }

    /** Promise 7: "BEYOND. KIND: ..", in this order. */
    private static void p7AsBeyondAheadOfKind() {
        Edges.refused("P7 no such field, of another kind", Edges::rich, x -> x.as(7, 6), Checks.BEYOND);
        Edges.refused("P7 no such kind, nor under it", Edges::rich, x -> x.as(0, 7), Checks.BEYOND);
    }

    /** Promise 8: "BEYOND.", of the FIELD, of what, and of v: ACRES 1 to 99, DITCH 0 to 9. */
    private static void p8SetBeyond() {
        Edges.bounds("P8 acres", Edges::rich, (x, v) -> x.set(6, 0, v), 1, 99);
        Edges.bounds("P8 ditch", Edges::rich, (x, v) -> x.set(6, 1, v), 0, 9);
        Edges.bounds("P8 what", Edges::rich, (x, v) -> x.set(6, v, 5), 0, 1);
        Edges.bounds("P8 field of seven", Edges::rich, (x, v) -> x.set(v, 0, 5), 0, 6);
        Edges.bounds("P8 field of ten", Edges::tenFields, (x, v) -> x.set(v, 1, 5), 0, 9);
    }

    /** Promise 8: "becomes v: what it was", from end to end. */
    private static void p8SetWhatItWas() {
        FieldsTold x = Edges.road(0, 2);
        Checks.same("P8 acres", x.set(1, 0, 1), 99);
        Checks.same("P8 acres", x.set(1, 0, 99), 1);
        Checks.same("P8 acres as they are", x.set(1, 0, 99), 99);
        Checks.same("P8 ditch", x.set(1, 1, 9), 0);
        Checks.same("P8 ditch as it is", x.set(1, 1, 9), 9);
        Checks.same("P8 ditch", x.set(1, 1, 0), 9);
        Checks.same("P8 the other field's", x.ofField(0, 2), 99);
        Checks.same("P8 the other field's", x.ofField(0, 3), 0);
    }

    /** Promise 9: "BEYOND.", of the OWNER and of v. */
    private static void p9FearBeyond() {
        Edges.bounds("P9 owner", Edges::rich, (x, v) -> x.fear(v, 0), 0, 3);
        Edges.bounds("P9 v", Edges::rich, (x, v) -> x.fear(0, v), 0, 9);
    }

    /** Promise 9: "becomes v: what it was". */
    private static void p9FearWhatItWas() {
        FieldsTold x = new FieldsTold();
        Checks.same("P9 fear", x.fear(0, 9), 0);
        Checks.same("P9 fear", x.fear(0, 0), 9);
        Checks.same("P9 fear", x.fear(3, 0), 3);
        Checks.same("P9 fear as it is", x.fear(3, 0), 0);
        Checks.same("P9 the others' fears", x.ofOwner(2, 0), 2);
    }

    /** Promise 10: "BEYOND.", and Terms, THE COACH: "a PACE (1 to 20 MINUTES; 4 at first)". */
    private static void p10PaceBeyond() {
        Edges.bounds("P10 v", Edges::rich, FieldsTold::pace, 1, 20);
        Edges.bounds("P10 v without fields", Edges::bare, FieldsTold::pace, 1, 20);
    }

    /** Promise 10: "becomes v: what it was". */
    private static void p10PaceWhatItWas() {
        FieldsTold x = new FieldsTold();
        Checks.same("P10 at first", x.pace(20), 4);
        Checks.same("P10 the most", x.pace(1), 20);
        Checks.same("P10 the least", x.pace(1), 1);
        Checks.same("P10 as it is", x.count(4), 1);
    }

    /** Promise 11: "BEYOND.". */
    private static void p11ForgetsBeyond() {
        Edges.bounds("P11 field of seven", Edges::rich, FieldsTold::forgets, 0, 6);
        Edges.bounds("P11 field of ten", Edges::tenFields, FieldsTold::forgets, 0, 9);
    }

    /** Promise 11: "how many TELLINGS": none, and as many as can be. */
    private static void p11ForgetsHowMany() {
        FieldsTold x = Edges.road(0, 2);
        Checks.same("P11 none", x.forgets(1), 0);
        for (int owner = 0; owner < 4; owner++) {
            Checks.tell(x, owner, 0, 9);
        }
        x.tells(2, 1);
        x.become(0, 11);
        Checks.same("P11 all, also of a deaf one", x.forgets(0), 36);
        Checks.same("P11 none then", x.forgets(0), 0);
        Checks.same("P11 no first", x.ofField(0, 4), -1);
        Checks.same("P11 no last", x.ofField(0, 5), -1);
        Checks.same("P11 the other's stay", x.ofField(1, 9), 1);
        Checks.same("P11 minutes stay", x.count(1), 37);
    }

    /** Promise 12: "BEYOND.", of the OWNER and of the FIELD. */
    private static void p12TellsBeyond() {
        Edges.bounds("P12 owner", Edges::rich, (x, v) -> x.tells(v, 0), 0, 3);
        Edges.bounds("P12 field of seven", Edges::rich, (x, v) -> x.tells(0, v), 0, 6);
        Edges.bounds("P12 field of ten", Edges::tenFields, (x, v) -> x.tells(3, v), 0, 9);
    }

    private static FieldsTold told(int times) {
        FieldsTold x = Edges.road(0, 2);
        Checks.tell(x, 1, 1, times);
        return x;
    }

    /** Promise 12: "STATE: TELLINGS are 9 already", of that OWNER to that MOWER, be it one that hears or not. */
    private static void p12TellsStateBy9() {
        Edges.allowed("P12 the ninth", () -> told(8), x -> x.tells(1, 1), 1);
        Edges.refused("P12 the tenth", () -> told(9), x -> x.tells(1, 1), Checks.STATE);
        Edges.allowed("P12 another owner's first", () -> told(9), x -> x.tells(0, 1), -1);
        Edges.allowed("P12 another field's first", () -> told(9), x -> x.tells(1, 0), -1);
        Edges.refused("P12 the tenth to a deaf one", () -> deaf(told(9)), x -> x.tells(1, 1), Checks.STATE);
        Edges.allowed("P12 the ninth to a deaf one", () -> deaf(told(8)), x -> x.tells(1, 1), 1);
    }

    private static FieldsTold deaf(FieldsTold x) {
        x.become(1, 11);
        return x;
    }

    /** Promise 12: "STATE: .. or MINUTE is 9999", also where the MOWER would not hear. */
    private static void p12TellsStateByTheLastMinute() {
        Edges.allowed("P12 in minute 9998", Edges::lateRoad, x -> x.tells(0, 0), -1);
        Edges.refused("P12 in minute 9999", EdgesOfFieldsTest::lastMinute, x -> x.tells(1, 0), Checks.STATE);
        FieldsTold x = lastMinute();
        x.become(0, 10);
        Checks.same("P12 in minute 9999, to a deaf one", x.tells(1, 0), Checks.STATE);
    }

    private static FieldsTold lastMinute() {
        FieldsTold x = Edges.lateRoad();
        x.tells(0, 0);
        return x;
    }

    /** Promise 12: "BEYOND. STATE: ..", in this order. */
    private static void p12TellsBeyondAheadOfState() {
        Edges.refused("P12 owner, in minute 9999", EdgesOfFieldsTest::lastMinute, x -> x.tells(4, 0), Checks.BEYOND);
        Edges.refused("P12 field, in minute 9999", EdgesOfFieldsTest::lastMinute, x -> x.tells(0, 1), Checks.BEYOND);
        Edges.refused("P12 field -1, by 9", () -> told(9), x -> x.tells(1, -1), Checks.BEYOND);
        Edges.refused("P12 owner -1, by 9", () -> told(9), x -> x.tells(-1, 1), Checks.BEYOND);
    }

    /** Promise 12: "whose the FIELD is then (-1: nobody's)": on the third telling, not on the second. */
    private static void p12TellsWhoseItIsThen() {
        Edges.allowed("P12 the first", () -> told(0), x -> x.tells(1, 1), -1);
        Edges.allowed("P12 the second", () -> told(1), x -> x.tells(1, 1), -1);
        Edges.allowed("P12 the third", () -> told(2), x -> x.tells(1, 1), 1);
        Edges.allowed("P12 another one's first", () -> told(3), x -> x.tells(0, 1), -1);
        Edges.allowed("P12 of another one than told", () -> loyalTo3(), x -> x.tells(0, 0), 3);
    }

    private static FieldsTold loyalTo3() {
        FieldsTold x = Edges.road(30, 1);
        Checks.tell(x, 3, 0, 3);
        return x;
    }

    /** Promise 13: "n (1 to 100)", "BEYOND.". */
    private static void p13LooseBeyond() {
        Edges.bounds("P13 n", Edges::rich, FieldsTold::loose, 1, 100);
        Edges.allowed("P13 the least", () -> Edges.road(10, 1), x -> x.loose(1), 1);
        Edges.allowed("P13 the most", () -> Edges.road(10, 1), x -> x.loose(100), 100);
    }

    /** Promise 13: "STATE: there are no FIELDS.". */
    private static void p13LooseState() {
        Edges.refused("P13 no fields", Edges::bare, x -> x.loose(1), Checks.STATE);
        Edges.refused("P13 no fields", Edges::bare, x -> x.loose(100), Checks.STATE);
        Edges.allowed("P13 one field", () -> Edges.road(0, 1), x -> x.loose(1), 1);
    }

    /** Promise 13: "BEYOND. STATE: ..", in this order. */
    private static void p13LooseBeyondAheadOfState() {
        Edges.refused("P13 n 0, no fields", Edges::bare, x -> x.loose(0), Checks.BEYOND);
        Edges.refused("P13 n 101, no fields", Edges::bare, x -> x.loose(101), Checks.BEYOND);
        Edges.refused("P13 the least n, no fields", Edges::bare, x -> x.loose(Integer.MIN_VALUE), Checks.BEYOND);
    }

    private static int drawn(int z, int times) {
        int now = z;
        for (int i = 0; i < times; i++) {
            now = now * 1103515245 + 12345;
        }
        return now;
    }

    /** Promise 13: "(one that STATE would refuse is left out; its draws aren't)": all 36 told, then none. */
    private static void p13LooseLeavesOutWhatStateWouldRefuse() {
        FieldsTold x = Edges.road(0, 1);
        int done = 0;
        for (int i = 0; i < 3; i++) {
            done += x.loose(100);
        }
        Checks.same("P13 as many as can be", done, 36);
        Checks.same("P13 minutes", x.count(1), 36);
        Checks.same("P13 two draws for each, done or not", x.count(9), drawn(1, 600));
        Edges.allowed("P13 none, which is no error", EdgesOfFieldsTest::allTold, y -> y.loose(100), 0);
        FieldsTold y = allTold();
        int last = y.ofField(0, 5);
        int z = y.count(9);
        Checks.same("P13 none", y.loose(1), 0);
        Checks.same("P13 the last stays", y.ofField(0, 5), last);
        Checks.same("P13 two draws", y.count(9), drawn(z, 2));
    }

    private static FieldsTold allTold() {
        FieldsTold x = Edges.road(0, 1);
        for (int owner = 0; owner < 4; owner++) {
            Checks.tell(x, owner, 0, 9);
        }
        return x;
    }

    /** Promise 13, and Terms, TELLING: "MINUTE (0 to 9999": behind the last minute all is left out. */
    private static void p13LooseInTheLastMinute() {
        FieldsTold x = Edges.lateRoad();
        x.become(0, 10);
        int z = x.count(9);
        Checks.same("P13 one of a hundred", x.loose(100), 1);
        Checks.same("P13 the minute", x.count(1), 9999);
        Checks.same("P13 two draws for each", x.count(9), drawn(z, 200));
        Checks.same("P13 none", x.loose(100), 0);
        Checks.same("P13 the minute stays", x.count(1), 9999);
        Checks.same("P13 no error", x.told(3), 0);
    }

    /** Terms, draws: "(an int), and gives z >>> 8": also from below 0, where the rests by >> would be below 0. */
    private static void p13LooseDrawsAreInts() {
        for (int z : new int[] {0, 1, -1, 2, -2, 12345, Integer.MIN_VALUE, Integer.MAX_VALUE, 715827883, -987654321}) {
            for (int fields = 1; fields <= 10; fields += 3) {
                drawsOne(z, fields);
            }
        }
    }

    private static void drawsOne(int z, int fields) {
        FieldsTold x = Edges.road(0, fields);
        x.seed(z);
        long once = ((z & 0xffffffffL) * 1103515245L + 12345) & 0xffffffffL;
        long twice = (once * 1103515245L + 12345) & 0xffffffffL;
        int owner = (int) (once / 256 % 4);
        int field = (int) (twice / 256 % fields);
        Checks.same("draws from " + z, x.loose(1), 1);
        Checks.same("draws from " + z + ": z", x.count(9), (int) twice);
        Checks.same("draws from " + z + ": owner and field", x.tellings(field, owner), 1);
    }
}
