/** Promises 14 to 16: the tape, texts, what they give. */
final class TextsTest {
    private TextsTest() {
    }

    public static void main(String[] args) {
        feeds();
        worksOut();
        findsFaults();
        counts5Open();
        readsInPlace();
        givesByNames();
        rulesTitlesAndRents();
        Checks.end("TextsTest");
    }

    private static void feeds() {
        FieldsTold x = new FieldsTold();
        for (int wild : new int[] {0, -1, 9, Integer.MIN_VALUE, Integer.MAX_VALUE}) {
            Checks.same("feed of " + wild, x.feed(0, wild), Checks.BEYOND);
        }
        for (int i = 1; i <= 6; i++) {
            Checks.same("feed of 8", x.feed(-1L, 8), 8 * i);
        }
        Checks.same("feed of 3", x.feed(0, 3), Checks.FULL);
        Checks.same("beyond ahead of full", x.feed(0, 9), Checks.BEYOND);
        Checks.same("feed of 1", x.feed(0, 1), 49);
        Checks.same("feed of 2", x.feed(0, 2), Checks.FULL);
        Checks.same("feed of 1", x.feed(0, 1), 50);
        Checks.same("feed of 1", x.feed(0, 1), Checks.FULL);
        Checks.same("bytes", x.count(6), 50);
        Checks.same("bytes of no text", x.text(0), -10);
        Checks.same("bytes", x.count(6), 0);
        Checks.same("the lowest byte first", x.feed('1' | '+' << 8 | (long) '2' << 16 | (long) 'x' << 24, 3), 3);
        Checks.same("the text", x.text(0), 1);
        Checks.same("what it gives", x.law(0, 0, 0, 0), 3);
        Checks.same("eight bytes", x.feed(0x3132332d3938372bL, 8), 8);
        Checks.same("a sign at the lowest", x.text(0), -10);
        Checks.same("eight bytes", x.feed(0x2b3132332d393837L, 8), 8);
        Checks.same("a sign at the highest", x.text(0), -18);
    }

    private static void gives(String text, int due) {
        FieldsTold x = new FieldsTold();
        Checks.same("text " + text, Checks.read(x, 0, text), 1);
        Checks.same(text, x.law(0, 5, 7, -3), due);
    }

    private static void worksOut() {
        gives("n", 5);
        gives("t", 7);
        gives("f", -3);
        gives("0", 0);
        gives("9999", 9999);
        gives("0042", 42);
        gives("n-t-1", -3);
        gives("n-t+1", -1);
        gives("2+3*4", 14);
        gives("(2+3)*4", 20);
        gives("100/7*7", 98);
        gives("100%7/2", 1);
        gives("f/2", -1);
        gives("f%2", -1);
        gives("n/0", 0);
        gives("n%0", 0);
        gives("n%0+1", 1);
        gives("1<2", 1);
        gives("2<1", 0);
        gives("2<2", 0);
        gives("2=2", 1);
        gives("2=3", 0);
        gives("3>2", 1);
        gives("2>2", 0);
        gives("n|0", 1);
        gives("0|0|f", 1);
        gives("0|0", 0);
        gives("n&t", 1);
        gives("n&0", 0);
        gives("1|0&0", 1);
        gives("(1|0)&0", 0);
        gives("1&1=0|2", 1);
        gives("n+1>t-1", 0);
        gives("n+1=t-1", 1);
        gives("!n", 0);
        gives("!0", 1);
        gives("!!n", 1);
        gives("!n+1", 1);
        gives("3*!0", 3);
        gives("!(n>9)*4", 4);
        gives("(1<2)<(2<1)", 0);
        gives("9999*9999*9999", 9999 * 9999 * 9999);
        gives("((((n))))", 5);
        gives("1+(2*(3+(4*(5+n))))", 1 + 2 * (3 + 4 * 10));
        FieldsTold x = new FieldsTold();
        Checks.same("a text", Checks.read(x, 0, "n/t"), 1);
        Checks.same("the least int by -1", x.law(0, Integer.MIN_VALUE, -1, 0), Integer.MIN_VALUE);
        Checks.same("a text", Checks.read(x, 0, "n%t"), 1);
        Checks.same("the least int by -1", x.law(0, Integer.MIN_VALUE, -1, 0), 0);
        Checks.same("a text", Checks.read(x, 0, "n"), 1);
        Checks.same("no error", x.law(0, Checks.BEYOND, 0, 0), Checks.BEYOND);
        Checks.same("none is counted", x.told(1), 0);
    }

    private static void faults(int use, String text, int place) {
        FieldsTold x = new FieldsTold();
        Checks.same("text " + text, Checks.read(x, use, text), -10 - place);
        Checks.same("bytes behind " + text, x.count(6), 0);
        Checks.same("the law behind " + text, x.law(use, 4, 5, 6), use == 0 ? 1 : 4);
    }

    private static void findsFaults() {
        faults(0, "", 0);
        faults(0, "n+", 2);
        faults(0, "+", 0);
        faults(0, "a", 0);
        faults(0, "m", 0);
        faults(1, "t", 0);
        faults(1, "f", 0);
        faults(1, "a+f", 2);
        faults(0, "nn", 1);
        faults(0, "n1", 1);
        faults(0, "1n", 1);
        faults(0, "12345", 4);
        faults(0, "1+00000", 6);
        faults(0, "n<t<f", 3);
        faults(0, "n=t>f", 3);
        faults(0, "n<t&f<n<n", 7);
        faults(0, "(n", 2);
        faults(0, "(n<t=f)", 4);
        faults(0, "n)", 1);
        faults(0, "()", 1);
        faults(0, "!", 1);
        faults(0, "!)", 1);
        faults(0, "n||t", 2);
        faults(0, "n!", 1);
        faults(0, "n(", 1);
        faults(0, " n", 0);
        faults(0, "n ", 1);
        faults(0, "n+-1", 2);
        faults(0, "n" + (char) 0, 1);
        faults(0, "" + (char) 255, 0);
        faults(0, "n+" + (char) 238, 2);
        faults(0, "n+n+n+n+n+n+n+n+n+n+n+n+n+n+n+n+n+n+n+n+n+n+n+n+n+", 50);
        faults(0, "n+n+n+n+n+n+n+n+n+n+n+n+n+n+n+n+n+n+n+n+n+n+n+n+1n", 49);
    }

    private static void counts5Open() {
        gives("!!!!!0", 1);
        gives("(((((n)))))", 5);
        gives("!(!(!0))", 1);
        gives("!!!!!n+!!!!!0", 1);
        gives("((((n))))+(((((t)))))", 12);
        gives("!((((n))+((t))))", 0);
        faults(0, "!!!!!!0", 5);
        faults(0, "((((((n))))))", 5);
        faults(0, "!!!!!(0)", 5);
        faults(0, "!(((((n)))))", 5);
        faults(0, "(((((!n)))))", 5);
        faults(0, "((((n))))+((((((t))))))", 15);
        faults(0, "(((((", 5);
        gives("(!!!!n+!!!!t)", 2);
    }

    private static void readsInPlace() {
        FieldsTold x = new FieldsTold();
        Checks.same("a text", Checks.read(x, 0, "n+1"), 1);
        Checks.same("bytes", x.count(6), 0);
        Checks.feed(x, "n+2");
        for (int wild : new int[] {-1, 2, Integer.MIN_VALUE, Integer.MAX_VALUE}) {
            Checks.same("text(" + wild + ")", x.text(wild), Checks.BEYOND);
        }
        Checks.same("the tape stays", x.count(6), 3);
        Checks.same("the text ahead", x.law(0, 1, 0, 0), 2);
        Checks.same("a text", x.text(0), 1);
        Checks.same("the text in its place", x.law(0, 1, 0, 0), 3);
        Checks.same("no text", Checks.read(x, 0, "n+"), -12);
        Checks.same("the one ahead stays", x.law(0, 1, 0, 0), 3);
        Checks.same("the other use's", x.law(1, 9, 8, 7), 9);
        Checks.same("a text of the other", Checks.read(x, 1, "m"), 1);
        Checks.same("the other use's", x.law(1, 9, 8, 7), 7);
        Checks.same("this one's stays", x.law(0, 1, 0, 0), 3);
        Checks.same("faults are no errors", x.told(1) + x.told(2) + x.told(3) + x.told(4) + x.told(5), 4);
        Checks.same("a long text", Checks.read(x, 0, "1+1+1+1+1+1+1+1+1+1+1+1+1+1+1+1+1+1+1+1+1+1+1+1+11"), 1);
        Checks.same("a long text", x.law(0, 0, 0, 0), 35);
        Checks.same("a short one behind it", Checks.read(x, 0, "t"), 1);
        Checks.same("a short one behind it", x.law(0, 0, 6, 0), 6);
        Checks.same("a text that ends in !", Checks.read(x, 0, "!n"), 1);
        Checks.same("a short one behind it", Checks.read(x, 0, "n"), 1);
        Checks.same("a short one behind it", x.law(0, 6, 0, 0), 6);
    }

    private static void givesByNames() {
        FieldsTold x = new FieldsTold();
        for (int wild : new int[] {-1, 2, Integer.MIN_VALUE, Integer.MAX_VALUE}) {
            Checks.same("law(" + wild + ", ..)", x.law(wild, 0, 0, 0), Checks.BEYOND);
        }
        Checks.same("a rent without a text is held", x.law(1, 1000, 0, 0), 999);
        Checks.same("a rent without a text is held", x.law(1, Integer.MIN_VALUE, 0, 0), 0);
        Checks.same("a rent without a text", x.law(1, 999, 0, 0), 999);
        Checks.same("a title's names", Checks.read(x, 0, "n*100+t*10+f"), 1);
        Checks.same("a title's names", x.law(0, 1, 2, 3), 123);
        Checks.same("a rent's names", Checks.read(x, 1, "a*100+n*10+m"), 1);
        Checks.same("a rent's names", x.law(1, 1, 2, 3), 123);
        Checks.same("held above", x.law(1, 10, 0, 0), 999);
        Checks.same("held above", x.law(1, 9, 9, 9), 999);
        Checks.same("held below", x.law(1, 0, 0, -1), 0);
        Checks.same("a title isn't held", x.law(0, 0, 0, -1), -1);
    }

    private static void rulesTitlesAndRents() {
        FieldsTold x = new FieldsTold();
        x.field(4, 20);
        Checks.tell(x, 2, 0, 2);
        Checks.same("by two tellings", x.ofField(0, 7), -1);
        Checks.same("a title", Checks.read(x, 0, "n*3>t&f=2"), 1);
        Checks.same("by the text", x.ofField(0, 7), 2);
        x.fear(2, 3);
        Checks.same("by another fear", x.ofField(0, 7), -1);
        x.fear(2, 2);
        Checks.same("a rent", Checks.read(x, 1, "a*10+n-m"), 1);
        Checks.same("the rent", x.ofField(0, 8), 198);
        Checks.same("a title below 0 is one, too", Checks.read(x, 0, "0-1"), 1);
        Checks.same("by the text", x.ofField(0, 7), 2);
        x.forgets(0);
        Checks.same("none says so", x.ofField(0, 7), -1);
        Checks.same("nobody's rent", x.ofField(0, 8), 0);
    }
}
