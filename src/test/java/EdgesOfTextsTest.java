/** The edges that Terms, 2, and promises 14 to 16 name: the tape, texts, faults, what they give. */
final class EdgesOfTextsTest {
    private static final String LONGEST = "n+n+n+n+n+n+n+n+n+n+n+n+n+n+n+n+n+n+n+n+n+n+n+n+11";

    private EdgesOfTextsTest() {
    }

    public static void main(String[] args) {
        numbersHave1To4Digits();
        joinsNoneOneOrMany();
        comparesOnceAtMost();
        readsNoBlanks();
        readsNamesOfItsUse();
        readsEveryByte();
        opens5AtMost();
        closesWhatIsOpen();
        intsWrap();
        quotientsAreCut();
        quotientsBy0Are0();
        truthIs1Or0();
        allIsWorkedOut();
        joinsFromTheLeft();
        faultIsTheFirstByte();
        faultIsHowManyThereAre();
        p14FeedBeyond();
        p14FeedFull();
        p14FeedBeyondAheadOfFull();
        p14FeedTheLowestFirst();
        p15TextBeyond();
        p15TextFault();
        p15TextTakesTheTape();
        p15TextOf50Bytes();
        p16LawBeyond();
        p16LawWithoutAText();
        p16LawHoldsRents();
        p16LawOfAnyNumber();
        Checks.end("EdgesOfTextsTest");
    }

    private static void gives(String sentence, String text, int due) {
        FieldsTold x = new FieldsTold();
        Checks.same(sentence + ": " + text, Checks.read(x, 0, text), 1);
        Checks.same(sentence + ": the tape behind " + text, x.count(6), 0);
        Checks.same(sentence + ": " + text + " by 5, 7, -3", x.law(0, 5, 7, -3), due);
    }

    private static void faults(String sentence, String text, int place) {
        FieldsTold x = new FieldsTold();
        Checks.read(x, 0, "n*7");
        Checks.same(sentence + ": " + text, Checks.read(x, 0, text), -10 - place);
        Checks.same(sentence + ": the tape behind " + text, x.count(6), 0);
        Checks.same(sentence + ": the text ahead of " + text, x.law(0, 5, 0, 0), 35);
        Checks.same(sentence + ": no error by " + text, Edges.errorsOf(x), 0);
    }

    /** Terms, Q: "a NUMBER of 1 to 4 digits". */
    private static void numbersHave1To4Digits() {
        String s = "a NUMBER of 1 to 4 digits";
        gives(s, "0", 0);
        gives(s, "9", 9);
        gives(s, "9999", 9999);
        gives(s, "0000", 0);
        gives(s, "0009", 9);
        faults(s, "00000", 4);
        faults(s, "99999", 4);
        faults(s, "n+12345", 6);
        faults(s, "(12345)", 5);
        faults(s, "1n", 1);
        faults(s, "n1", 1);
    }

    /** Terms, TEXTS: "A { | A }", "B { & B }", "P { + P, - P }", "Q { * Q, / Q, % Q }": none, one, many. */
    private static void joinsNoneOneOrMany() {
        for (String sign : new String[] {"|", "&", "+", "-", "*", "/", "%"}) {
            String s = "{ " + sign + " }";
            FieldsTold x = new FieldsTold();
            Checks.same(s + " none", Checks.read(x, 0, "n"), 1);
            Checks.same(s + " one", Checks.read(x, 0, "n" + sign + "n"), 1);
            Checks.same(s + " as many as the tape holds", Checks.read(x, 0, "n" + (sign + "n").repeat(24)), 1);
            faults(s, sign, 0);
            faults(s, sign + "n", 0);
            faults(s, "n" + sign, 2);
            faults(s, "n" + sign + sign + "n", 2);
            faults(s, "(n" + sign + ")", 3);
        }
        gives("{ + } many", "1" + "+1".repeat(24), 25);
        gives("{ - } many", "1" + "-1".repeat(24), -23);
        gives("{ * } many", "2" + "*2".repeat(24), 33554432);
        gives("{ | } many", "0" + "|0".repeat(24), 0);
        gives("{ & } many", "3" + "&2".repeat(24), 1);
    }

    /** Terms, B: "S, or S < S, S = S, S > S": one comparison, and again in ( ). */
    private static void comparesOnceAtMost() {
        for (String sign : new String[] {"<", "=", ">"}) {
            String s = "S " + sign + " S";
            faults(s, "n" + sign + "n" + sign + "n", 3);
            faults(s, "n" + sign + "n<n", 3);
            faults(s, "n" + sign + "n=n", 3);
            faults(s, "n" + sign + "n>n", 3);
            faults(s, "(n" + sign + "n" + sign + "n)", 4);
            faults(s, "n" + sign, 2);
            faults(s, sign + "n", 0);
        }
        gives("S, or S < S", "n<t", 1);
        gives("S, or S < S, in ( )", "(n<t)<t", 1);
        gives("S, or S < S, in ( )", "n<(t<n)", 0);
        gives("S, or S < S, behind & and |", "n<t&n<t|n<t", 1);
        gives("S = S, at the edge", "n=5", 1);
        gives("S = S, at the edge", "n=6", 0);
        gives("S < S, at the edge", "n<5", 0);
        gives("S < S, at the edge", "n<6", 1);
        gives("S > S, at the edge", "n>5", 0);
        gives("S > S, at the edge", "n>4", 1);
    }

    /** Terms, TEXTS: "No blanks.". */
    private static void readsNoBlanks() {
        faults("No blanks", " ", 0);
        faults("No blanks", " n", 0);
        faults("No blanks", "n ", 1);
        faults("No blanks", "n +t", 1);
        faults("No blanks", "n+ t", 2);
        faults("No blanks", "( n)", 1);
        faults("No blanks", "! n", 1);
        faults("No blanks", "n\n", 1);
        faults("No blanks", "\tn", 0);
    }

    /** Terms, USES: "0 TITLE, NAMES n .., t .., f ..", "1 RENT .., NAMES a .., n .., m m": no other's. */
    private static void readsNamesOfItsUse() {
        for (int use = 0; use < 2; use++) {
            String names = use == 0 ? "ntf" : "anm";
            for (char name = 0; name < 256; name++) {
                FieldsTold x = new FieldsTold();
                boolean isOne = names.indexOf(name) >= 0 || name >= '0' && name <= '9';
                int due = isOne ? 1 : name == '!' || name == '(' ? -11 : -10;
                Checks.same("NAMES of use " + use + ", byte " + (int) name, Checks.read(x, use, "" + name), due);
            }
        }
        FieldsTold x = new FieldsTold();
        Checks.same("NAMES of TITLE", Checks.read(x, 0, "n*100+t*10+f"), 1);
        Checks.same("NAMES of TITLE in order", x.law(0, 1, 2, 3), 123);
        Checks.same("NAMES of RENT", Checks.read(x, 1, "a*100+n*10+m"), 1);
        Checks.same("NAMES of RENT in order", x.law(1, 1, 2, 3), 123);
        Checks.same("NAMES of TITLE stay", x.law(0, 1, 2, 3), 123);
    }

    /** Terms, FAULT: "the first byte with which no TEXT goes on": bytes are 0 to 255. */
    private static void readsEveryByte() {
        String goesOn = "|&<=>+-*/%";
        for (char next = 0; next < 256; next++) {
            FieldsTold x = new FieldsTold();
            int due = goesOn.indexOf(next) >= 0 ? -12 : -11;
            Checks.same("byte " + (int) next + " behind a name", Checks.read(x, 0, "n" + next), due);
        }
    }

    /** Terms, TEXTS: "At most 5 of ! and ( are open at once.". */
    private static void opens5AtMost() {
        String s = "at most 5 open";
        gives(s, "!!!!!n", 0);
        faults(s, "!!!!!!n", 5);
        gives(s, "(((((n)))))", 5);
        faults(s, "((((((n))))))", 5);
        gives(s, "!(!(!n))", 0);
        gives(s, "(!(!(n)))", 1);
        faults(s, "!(!(!(n)))", 5);
        faults(s, "(!(!(!n)))", 5);
        faults(s, "!!!!!(n)", 5);
        faults(s, "(((((!n)))))", 5);
        faults(s, "(((((n+!n)))))", 7);
        gives(s, "((((n+!n))))", 5);
        faults(s, "((((n+!!n))))", 7);
    }

    /** Terms, TEXTS: "are open at once": those that are closed don't count, a ! is closed behind its Q. */
    private static void closesWhatIsOpen() {
        String s = "open at once";
        gives(s, "!!!!!n+!!!!!n+!!!!!n", 0);
        gives(s, "(((((n)))))+(((((n)))))", 10);
        gives(s, "(((((n))+((n)))))", 10);
        faults(s, "(((((n))+(((n))))))", 11);
        gives(s, "!n*!n*!n*!n*!n*!n*!n", 0);
        gives(s, "!(((n)))+((((t))))", 7);
        gives(s, "!!!!(n)+!!!!(t)", 2);
        faults(s, "!!!!(n)+!!!!((t))", 13);
        gives(s, "(n)*(n)*(n)*(n)*(n)*(n)", 15625);
        faults(s, "(n", 2);
        faults(s, "((n)", 4);
        faults(s, "(((((n))))", 10);
        faults(s, "n)", 1);
        faults(s, "(n))", 3);
        faults(s, "()", 1);
        faults(s, "!)", 1);
        faults(s, "(!)", 2);
    }

    /** Terms, TEXTS: "Ints that wrap". */
    private static void intsWrap() {
        gives("ints that wrap", "9999*9999*9999", wrapped(9999L * 9999L * 9999L));
        FieldsTold x = new FieldsTold();
        Checks.read(x, 0, "n+t");
        Checks.same("the most and 1", x.law(0, Integer.MAX_VALUE, 1, 0), Integer.MIN_VALUE);
        Checks.same("the least and -1", x.law(0, Integer.MIN_VALUE, -1, 0), Integer.MAX_VALUE);
        Checks.same("the most and 0", x.law(0, Integer.MAX_VALUE, 0, 0), Integer.MAX_VALUE);
        Checks.read(x, 0, "n-t");
        Checks.same("the least less 1", x.law(0, Integer.MIN_VALUE, 1, 0), Integer.MAX_VALUE);
        Checks.same("0 less the least", x.law(0, 0, Integer.MIN_VALUE, 0), Integer.MIN_VALUE);
        Checks.read(x, 0, "n*t");
        Checks.same("65536 by 65536", x.law(0, 65536, 65536, 0), 0);
        Checks.same("65536 by 32768", x.law(0, 65536, 32768, 0), Integer.MIN_VALUE);
        Checks.same("the most by the most", x.law(0, Integer.MAX_VALUE, Integer.MAX_VALUE, 0), 1);
        Checks.same("the least by -1", x.law(0, Integer.MIN_VALUE, -1, 0), Integer.MIN_VALUE);
        Checks.read(x, 0, "n<t");
        Checks.same("the least below the most", x.law(0, Integer.MIN_VALUE, Integer.MAX_VALUE, 0), 1);
        Checks.same("the most below the least", x.law(0, Integer.MAX_VALUE, Integer.MIN_VALUE, 0), 0);
        Checks.read(x, 0, "n>t");
        Checks.same("the most above the least", x.law(0, Integer.MAX_VALUE, Integer.MIN_VALUE, 0), 1);
    }

    private static int wrapped(long whole) {
        long rest = whole % 4294967296L;
        return (int) (rest < 2147483648L ? rest : rest - 4294967296L);
    }

    /** Terms, ERRORS: "Quotients are cut", and Terms, TEXTS: "/ cut, % the rest that it leaves". */
    private static void quotientsAreCut() {
        int[][] rows = {{7, 2, 3, 1}, {-7, 2, -3, -1}, {7, -2, -3, 1}, {-7, -2, 3, -1}, {1, 2, 0, 1}, {-1, 2, 0, -1},
            {6, 3, 2, 0}, {-6, 3, -2, 0}, {0, 5, 0, 0}, {5, 1, 5, 0}, {5, -1, -5, 0},
            {Integer.MIN_VALUE, -1, Integer.MIN_VALUE, 0}, {Integer.MIN_VALUE, 1, Integer.MIN_VALUE, 0},
            {Integer.MAX_VALUE, -1, -Integer.MAX_VALUE, 0}, {Integer.MIN_VALUE, 2, -1073741824, 0},
            {Integer.MIN_VALUE, Integer.MIN_VALUE, 1, 0}, {Integer.MAX_VALUE, Integer.MIN_VALUE, 0, Integer.MAX_VALUE}};
        FieldsTold x = new FieldsTold();
        Checks.read(x, 0, "n/t");
        for (int[] row : rows) {
            Checks.same(row[0] + " / " + row[1], x.law(0, row[0], row[1], 0), row[2]);
        }
        Checks.read(x, 0, "n%t");
        for (int[] row : rows) {
            Checks.same(row[0] + " % " + row[1], x.law(0, row[0], row[1], 0), row[3]);
        }
    }

    /** Terms, TEXTS: "both by 0 are 0". */
    private static void quotientsBy0Are0() {
        FieldsTold x = new FieldsTold();
        for (String text : new String[] {"n/t", "n%t", "n/0", "n%0", "n/(t-t)", "n%!1"}) {
            Checks.read(x, 0, text);
            for (int n : new int[] {Integer.MIN_VALUE, -1, 0, 1, Integer.MAX_VALUE}) {
                Checks.same(n + " by 0 in " + text, x.law(0, n, 0, 0), 0);
            }
        }
        gives("by 0, and on", "n/0+n", 5);
        gives("by 0, and on", "n%0*2-1", -1);
        gives("by 0, twice", "n/0/0%0", 0);
    }

    /** Terms, TEXTS: "| & < = > ! are 1 or 0, what is not 0 being true". */
    private static void truthIs1Or0() {
        int[] some = {Integer.MIN_VALUE, -2, -1, 0, 1, 2, Integer.MAX_VALUE};
        FieldsTold or = new FieldsTold();
        FieldsTold and = new FieldsTold();
        FieldsTold not = new FieldsTold();
        Checks.read(or, 0, "n|t");
        Checks.read(and, 0, "n&t");
        Checks.read(not, 0, "!n");
        for (int a : some) {
            Checks.same("! " + a, not.law(0, a, 0, 0), a == 0 ? 1 : 0);
            for (int b : some) {
                Checks.same(a + " | " + b, or.law(0, a, b, 0), a == 0 && b == 0 ? 0 : 1);
                Checks.same(a + " & " + b, and.law(0, a, b, 0), a == 0 || b == 0 ? 0 : 1);
            }
        }
        gives("a truth is 1", "(n<t)+(n<t)", 2);
        gives("a truth is 1", "(n|t)+(n&t)+!0", 3);
    }

    /** Terms, TEXTS: "all is worked out": what needn't be does no harm. */
    private static void allIsWorkedOut() {
        gives("all is worked out", "1|n/0", 1);
        gives("all is worked out", "0&n%0", 0);
        gives("all is worked out", "0&(n/0>1)|1", 1);
        gives("all is worked out", "n|t|f|0", 1);
        gives("all is worked out", "0&0&0|0", 0);
    }

    /** Terms, TEXTS: "A { | A }" and so on: each from the left, each level by itself. */
    private static void joinsFromTheLeft() {
        gives("from the left", "9-3-2", 4);
        gives("from the left", "9-3+2", 8);
        gives("from the left", "100/7/3", 4);
        gives("from the left", "100/7*7", 98);
        gives("from the left", "100%7*9/2", 9);
        gives("levels", "2+3*4-6/4", 13);
        gives("levels", "1|0&0", 1);
        gives("levels", "0&0|1", 1);
        gives("levels", "1+1=2&3", 1);
        gives("levels", "!n+1", 1);
        gives("levels", "!(n+1)", 0);
        gives("levels", "2*!0*3", 6);
    }

    /** Terms, FAULT: "the place of the first byte with which no TEXT goes on". */
    private static void faultIsTheFirstByte() {
        String s = "the first byte with which no TEXT goes on";
        faults(s, "?", 0);
        faults(s, "?n", 0);
        faults(s, "n?+?", 1);
        faults(s, "n+?+?", 2);
        faults(s, "nn", 1);
        faults(s, "n!n", 1);
        faults(s, "n(t)", 1);
        faults(s, "(n)t", 3);
        faults(s, "n+-1", 2);
        faults(s, "n<=t", 2);
        faults(s, "n" + (char) 0, 1);
        faults(s, "" + (char) 255, 0);
        faults(s, "n" + (char) ('+' + 128) + "t", 1);
        faults(s, "" + (char) ('n' + 128), 0);
        faults(s, LONGEST.substring(0, 49) + "?", 49);
        faults(s, LONGEST.substring(0, 48) + "?1", 48);
    }

    /** Terms, FAULT: "how many there are, if it ends too early": none, one, and 50. */
    private static void faultIsHowManyThereAre() {
        String s = "how many there are";
        faults(s, "", 0);
        faults(s, "(", 1);
        faults(s, "!", 1);
        faults(s, "n+", 2);
        faults(s, "(((((", 5);
        faults(s, LONGEST.substring(0, 48), 48);
        faults(s, LONGEST.substring(0, 48) + "n+", 50);
        faults(s, "(" + LONGEST.substring(0, 49), 50);
    }

    private static FieldsTold fed(int bytes) {
        FieldsTold x = new FieldsTold();
        for (int i = 0; i < bytes; i++) {
            x.feed('1' + i % 9, 1);
        }
        return x;
    }

    /** Promise 14: "The n lowest bytes (1 .. 8)", "BEYOND.". */
    private static void p14FeedBeyond() {
        Edges.bounds("P14 n", Edges::rich, (x, v) -> x.feed(-1, v), 1, 8);
        Edges.bounds("P14 n, the tape empty", Edges::bare, (x, v) -> x.feed(0, v), 1, 8);
        Edges.allowed("P14 the least", Edges::bare, x -> x.feed(0, 1), 1);
        Edges.allowed("P14 the most", Edges::bare, x -> x.feed(0, 8), 8);
    }

    /** Promise 14: "FULL.", and Terms, TEXTS: "THE TAPE (bytes, at most 50)". */
    private static void p14FeedFull() {
        for (int n = 1; n <= 8; n++) {
            int more = n;
            Edges.allowed("P14 up to 50 by " + n, () -> fed(50 - more), x -> x.feed(0, more), 50);
            Edges.refused("P14 over 50 by " + n, () -> fed(51 - more), x -> x.feed(0, more), Checks.FULL);
            Edges.refused("P14 full, by " + n, () -> fed(50), x -> x.feed(0, more), Checks.FULL);
        }
        Edges.allowed("P14 room behind text()", () -> readOut(fed(50)), x -> x.feed(0, 8), 8);
    }

    private static FieldsTold readOut(FieldsTold x) {
        x.text(0);
        return x;
    }

    /** Promise 14: "BEYOND. FULL.", in this order. */
    private static void p14FeedBeyondAheadOfFull() {
        for (int n : new int[] {0, 9, -1, Integer.MIN_VALUE, Integer.MAX_VALUE}) {
            Edges.refused("P14 n " + n + ", full", () -> fed(50), x -> x.feed(0, n), Checks.BEYOND);
        }
    }

    /** Promise 14: "The n lowest bytes .. of a word, the lowest first". */
    private static void p14FeedTheLowestFirst() {
        long word = '1' | '2' << 8 | '-' << 16 | (long) '7' << 24 | (long) '*' << 32 | (long) '3' << 40 | (long) '+' << 48
                | (long) '9' << 56;
        // bytes of 12-7*3+9: behind each sign the text ends too early
        int[] texts = {1, 1, -13, 1, -15, 1, -17, 1};
        int[] gives = {1, 12, 0, 5, 0, -9, 0, 0};
        for (int n = 1; n <= 8; n++) {
            FieldsTold x = new FieldsTold();
            Checks.same("P14 bytes", x.feed(word, n), n);
            Checks.same("P14 the text of " + n, x.text(0), texts[n - 1]);
            Checks.same("P14 what " + n + " bytes give", x.law(0, 0, 0, 0), gives[n - 1]);
        }
        FieldsTold x = new FieldsTold();
        Checks.same("P14 bytes behind those ahead", x.feed('1', 1), 1);
        Checks.same("P14 bytes behind those ahead", x.feed('2', 1), 2);
        Checks.same("P14 their text", x.text(0), 1);
        Checks.same("P14 what it gives", x.law(0, 0, 0, 0), 12);
        x.feed(-1L << 8 | 'n', 1);
        Checks.same("P14 higher bytes don't matter", x.text(0), 1);
        x.feed(-1L << 8 | 'n', 2);
        Checks.same("P14 a byte of 255", x.text(0), -11);
    }

    /** Promise 15: "a USE (0, 1)", "BEYOND (THE TAPE stays).". */
    private static void p15TextBeyond() {
        Edges.bounds("P15 use", Edges::rich, FieldsTold::text, 0, 1);
        Edges.bounds("P15 use, the tape empty", Edges::bare, FieldsTold::text, 0, 1);
        FieldsTold x = fed(3);
        Checks.same("P15 use 2", x.text(2), Checks.BEYOND);
        Checks.same("P15 the tape stays", x.count(6), 3);
        Checks.same("P15 its text", x.text(0), 1);
        Checks.same("P15 its text", x.law(0, 0, 0, 0), 123);
    }

    /** Promise 15: "-10 less the FAULT (no ERROR; the one ahead stays; THE TAPE is empty, too)", for both USES. */
    private static void p15TextFault() {
        for (int use = 0; use < 2; use++) {
            FieldsTold x = new FieldsTold();
            Checks.same("P15 the least fault", x.text(use), -10);
            Checks.same("P15 without a text still", x.law(use, 3, 0, 0), use == 0 ? 1 : 3);
            Checks.same("P15 a text", Checks.read(x, use, "n*n"), 1);
            Checks.same("P15 the greatest fault", Checks.read(x, use, LONGEST.substring(0, 48) + "n+"), -60);
            Checks.same("P15 the tape is empty", x.count(6), 0);
            Checks.same("P15 the one ahead stays", x.law(use, 6, 6, 0), 36);
            Checks.same("P15 no error", Edges.errorsOf(x), 0);
            Checks.same("P15 a name of the other use", Checks.read(x, use, use == 0 ? "a" : "t"), -10);
            Checks.same("P15 the one ahead stays", x.law(use, 6, 6, 0), 36);
        }
    }

    /** Promise 15: "THE TAPE, which is empty then, is the TEXT of a USE (0, 1), in place of one ahead: 1". */
    private static void p15TextTakesTheTape() {
        FieldsTold x = new FieldsTold();
        Checks.same("P15 a text", Checks.read(x, 0, "n+t+f"), 1);
        Checks.same("P15 the tape is empty", x.count(6), 0);
        Checks.same("P15 the tape is empty", x.text(0), -10);
        Checks.same("P15 a shorter one in its place", Checks.read(x, 0, "7"), 1);
        Checks.same("P15 what it gives", x.law(0, 1, 2, 3), 7);
        Checks.same("P15 the other use's", x.law(1, 1, 2, 3), 1);
        Checks.same("P15 the other use's", Checks.read(x, 1, "m"), 1);
        Checks.same("P15 what it gives", x.law(1, 1, 2, 3), 3);
        Checks.same("P15 the first use's stays", x.law(0, 1, 2, 3), 7);
        Checks.same("P15 one that ends by !", Checks.read(x, 0, "!n"), 1);
        Checks.same("P15 one without, in its place", Checks.read(x, 0, "n"), 1);
        Checks.same("P15 what it gives", x.law(0, 8, 2, 3), 8);
    }

    /** Terms, TEXTS: "(bytes, at most 50)": a TEXT of all 50. */
    private static void p15TextOf50Bytes() {
        Checks.same("50 bytes", LONGEST.length(), 50);
        for (int use = 0; use < 2; use++) {
            FieldsTold x = new FieldsTold();
            Checks.same("P15 a text of 50 bytes", Checks.read(x, use, LONGEST), 1);
            Checks.same("P15 what it gives", x.law(use, 1, 1, 0), 35);
            Checks.same("P15 one of 49", Checks.read(x, use, LONGEST.substring(0, 49)), 1);
            Checks.same("P15 what it gives", x.law(use, 1, 1, 0), 25);
            Checks.same("P15 one of 1", Checks.read(x, use, "n"), 1);
            Checks.same("P15 what it gives", x.law(use, 9, 9, 0), 9);
        }
        gives("50 bytes of levels", "!n|!t&n+1<t-2*3|!!n&(((f+4)*5)%6)/7|n=9999|f>100|1", 1);
    }

    /** Promise 16: "BEYOND.", of the USE. */
    private static void p16LawBeyond() {
        Edges.bounds("P16 use", Edges::rich, (x, v) -> x.law(v, 1, 1, 1), 0, 1);
        Edges.bounds("P16 use, by the least ints", Edges::bare,
                (x, v) -> x.law(v, Integer.MIN_VALUE, Integer.MIN_VALUE, Integer.MIN_VALUE), 0, 1);
    }

    /** Terms, USES: "without a TEXT n>2", "without a TEXT a". */
    private static void p16LawWithoutAText() {
        FieldsTold x = new FieldsTold();
        int[] some = {Integer.MIN_VALUE, -1, 0, 1, 2, 3, 4, Integer.MAX_VALUE};
        int[] title = {0, 0, 0, 0, 0, 1, 1, 1};
        int[] rent = {0, 0, 0, 1, 2, 3, 4, 999};
        for (int i = 0; i < some.length; i++) {
            Checks.same("P16 TITLE without a text, n " + some[i], x.law(0, some[i], 9, -9), title[i]);
            Checks.same("P16 RENT without a text, a " + some[i], x.law(1, some[i], 9, -9), rent[i]);
        }
    }

    /** Terms, RENT: "held within 0 to 999". */
    private static void p16LawHoldsRents() {
        FieldsTold x = new FieldsTold();
        int[] some = {Integer.MIN_VALUE, -1, 0, 1, 998, 999, 1000, Integer.MAX_VALUE};
        int[] due = {0, 0, 0, 1, 998, 999, 999, 999};
        for (int i = 0; i < some.length; i++) {
            Checks.same("P16 RENT without a text is held", x.law(1, some[i], 0, 0), due[i]);
        }
        Checks.read(x, 1, "a+0*n+m");
        for (int i = 0; i < some.length; i++) {
            Checks.same("P16 RENT is held", x.law(1, some[i], 0, 0), due[i]);
        }
        Checks.same("P16 RENT wraps ahead of being held", x.law(1, Integer.MAX_VALUE, 0, 1), 0);
        Checks.same("P16 RENT wraps ahead of being held", x.law(1, Integer.MIN_VALUE, 0, -1), 999);
    }

    /** Promise 16: "(TITLE: any number)": numbers as those of ERRORS are none. */
    private static void p16LawOfAnyNumber() {
        FieldsTold x = new FieldsTold();
        Checks.read(x, 0, "n");
        int[] some = {Integer.MIN_VALUE, Checks.BEYOND, Checks.NONE, Checks.STATE, Checks.FULL, Checks.KIND, -1, 1000,
            Integer.MAX_VALUE};
        for (int n : some) {
            Checks.same("P16 TITLE of any number", x.law(0, n, 0, 0), n);
        }
        Checks.same("P16 no error", Edges.errorsOf(x), 0);
    }
}
