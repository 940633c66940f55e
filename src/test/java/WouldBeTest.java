/** Promises 17 to 24: what would be. */
final class WouldBeTest {
    private WouldBeTest() {
    }

    public static void main(String[] args) {
        needs();
        needsByATextWithAGap();
        needsNoTenthTelling();
        coaches();
        gains();
        gainsTheLeastSet();
        turns();
        turnsAmongTheFirstFive();
        turnsWithoutATenth();
        turnsWithoutAWayOut();
        thinksOfTenFields();
        ones();
        fears();
        silences();
        odds();
        changesNothing();
        Checks.end("WouldBeTest");
    }

    private static void needs() {
        FieldsTold x = new FieldsTold();
        x.field(0, 1);
        x.field(11, 1);
        x.field(20, 1);
        x.field(30, 1);
        x.field(61, 1);
        Checks.same("needed", x.needed(0, 0), 3);
        Checks.tell(x, 0, 0, 2);
        Checks.same("needed", x.needed(0, 0), 1);
        Checks.tell(x, 0, 0, 1);
        Checks.same("needed", x.needed(0, 0), 0);
        Checks.tell(x, 1, 0, 1);
        Checks.same("the last counts", x.needed(0, 0), 1);
        Checks.same("of a deaf one", x.needed(1, 1), Checks.NONE);
        Checks.tell(x, 2, 2, 1);
        Checks.same("by less fear", x.needed(1, 2), Checks.NONE);
        Checks.same("by more fear", x.needed(3, 2), 3);
        x.fear(1, 2);
        Checks.same("by as much fear", x.needed(1, 2), 3);
        Checks.tell(x, 3, 3, 1);
        Checks.same("of a loyal one", x.needed(0, 3), Checks.NONE);
        Checks.same("of its first", x.needed(3, 3), 2);
        Checks.same("of an echo", x.needed(0, 4), Checks.NONE);
        Checks.tell(x, 3, 3, 1);
        Checks.same("of an echo of its own", x.needed(3, 4), 3);
        for (int wild : new int[] {-1, 5, Integer.MIN_VALUE, Integer.MAX_VALUE}) {
            Checks.same("needed(" + wild + ", 0)", x.needed(wild, 0), Checks.BEYOND);
            Checks.same("needed(0, " + wild + ")", x.needed(0, wild), Checks.BEYOND);
        }
        Checks.same("needed(4, 0)", x.needed(4, 0), Checks.BEYOND);
        Checks.same("minutes", x.count(1), 7);
        Checks.same("told(2)", x.told(2), 4);
    }

    private static void needsByATextWithAGap() {
        FieldsTold x = new FieldsTold();
        x.field(0, 1);
        Checks.same("a text", Checks.read(x, 0, "n=9"), 1);
        Checks.same("nine", x.needed(2, 0), 9);
        Checks.same("a text", Checks.read(x, 0, "n%4=3"), 1);
        Checks.same("the least", x.needed(2, 0), 3);
        Checks.tell(x, 2, 0, 4);
        Checks.same("the next", x.needed(2, 0), 3);
        Checks.tell(x, 2, 0, 4);
        Checks.same("none behind", x.needed(2, 0), Checks.NONE);
        Checks.same("a text", Checks.read(x, 0, "1"), 1);
        Checks.same("none needed", x.needed(2, 0), 0);
        Checks.same("one needed", x.needed(1, 0), 1);
        x.forgets(0);
        Checks.same("that it says so", x.needed(2, 0), 1);
    }

    private static void needsNoTenthTelling() {
        FieldsTold x = new FieldsTold();
        x.field(0, 1);
        Checks.tell(x, 0, 0, 9);
        Checks.tell(x, 1, 0, 1);
        Checks.same("a tenth isn't the last", x.needed(0, 0), Checks.NONE);
        x.become(0, 51);
        Checks.same("it is by a parrot", x.needed(0, 0), 0);
    }

    private static void coaches() {
        FieldsTold x = new FieldsTold();
        x.field(0, 1);
        x.field(0, 1);
        x.field(0, 1);
        x.set(0, 1, 2);
        x.set(2, 1, 9);
        Checks.same("coach", x.coach(0), 6);
        Checks.same("coach", x.coach(1), 10);
        Checks.same("coach", x.coach(2), 23);
        x.pace(20);
        Checks.same("coach", x.coach(2), 71);
        for (int wild : new int[] {-1, 3, Integer.MIN_VALUE, Integer.MAX_VALUE}) {
            Checks.same("coach(" + wild + ")", x.coach(wild), Checks.BEYOND);
        }
    }

    private static void gains() {
        FieldsTold x = new FieldsTold();
        Checks.same("gain without fields", x.gain(3, 0), 0);
        Checks.same("its set", x.gain(3, 1), 0);
        x.field(0, 1);
        Checks.same("gain of an acre", x.gain(3, 0), 1);
        Checks.same("its set", x.gain(3, 1), 1);
        x.set(0, 0, 10);
        x.field(0, 20);
        x.field(13, 90);
        x.pace(2);
        // 3 tellings for each of the first two: done at 3 and 4 or 7; the coach is there at 2 and 4
        Checks.same("gain", x.gain(1, 0), 20);
        Checks.same("its set", x.gain(1, 1), 2);
        x.set(0, 1, 1);
        Checks.same("as many sets, the most acres", x.gain(1, 1), 2);
        x.set(0, 1, 3);
        Checks.same("both: at 3 of 5 and at 7 of 7", x.gain(1, 1), 3);
        Checks.same("both", x.gain(1, 0), 30);
        x.set(0, 1, 2);
        Checks.same("both: at 7 of 6", x.gain(1, 1), 2);
        Checks.same("the deaf one's 3 is told already to no title", x.gain(3, 1), 2);
        Checks.same("a text", Checks.read(x, 0, "n>2|t=0"), 1);
        Checks.same("nothing is needed of the deaf one", x.gain(3, 0), 110);
        Checks.same("its set", x.gain(3, 1), 6);
        for (int wild : new int[] {-1, 4, Integer.MIN_VALUE, Integer.MAX_VALUE}) {
            Checks.same("gain(" + wild + ", 0)", x.gain(wild, 0), Checks.BEYOND);
            Checks.same("gain(0, " + wild + ")", x.gain(0, wild), Checks.BEYOND);
        }
        Checks.same("gain(0, 2)", x.gain(0, 2), Checks.BEYOND);
    }

    private static void gainsTheLeastSet() {
        FieldsTold x = new FieldsTold();
        x.field(0, 10);
        x.field(0, 20);
        x.field(0, 30);
        x.field(0, 30);
        x.pace(1);
        x.set(0, 1, 5);
        // the coach is there at 6, 7, 8, 9: two fields at most
        Checks.same("gain", x.gain(0, 0), 60);
        x.set(3, 0, 20);
        Checks.same("of 6 and 10 the least", x.gain(0, 1), 6);
        Checks.same("gain", x.gain(0, 0), 50);
        x.set(1, 0, 19);
        Checks.same("gain", x.gain(0, 1), 12);
        for (int i = 4; i < 10; i++) {
            x.field(0, 99);
        }
        x.pace(20);
        Checks.same("all of ten", x.gain(0, 1), 1023);
        Checks.same("all of ten", x.gain(0, 0), 10 + 19 + 30 + 20 + 594);
    }

    private static void turns() {
        FieldsTold x = new FieldsTold();
        Checks.same("turns without fields", x.turns(0, 1, 0), Checks.STATE);
        Checks.same("beyond ahead of state", x.turns(0, 1, 5), Checks.BEYOND);
        x.field(0, 10);
        x.field(0, 25);
        Checks.tell(x, 0, 0, 2);
        Checks.tell(x, 0, 1, 2);
        Checks.same("none", x.turns(0, 1, 0), 0);
        Checks.same("the first takes the greater", x.turns(0, 1, 1), 25);
        Checks.same("the other takes it back", x.turns(0, 1, 2), 0);
        Checks.same("the first has one of them", x.turns(0, 1, 3), 25);
        Checks.same("the other has none", x.turns(1, 0, 1), 0);
        Checks.same("the other hinders nothing", x.turns(1, 0, 2), -25);
        Checks.tell(x, 3, 0, 3);
        Checks.tell(x, 2, 1, 3);
        Checks.same("as they are", x.turns(3, 2, 0), -15);
        Checks.same("another two", x.turns(2, 3, 0), 15);
        Checks.same("one alone", x.turns(3, 0, 0), 10);
        int[][] beyond = {{-1, 0, 0}, {4, 0, 0}, {0, -1, 0}, {0, 4, 0}, {0, 0, 1}, {3, 3, 0}, {0, 1, -1}, {0, 1, 5}};
        for (int[] b : beyond) {
            Checks.same("turns beyond", x.turns(b[0], b[1], b[2]), Checks.BEYOND);
        }
        Checks.same("turns beyond", x.turns(0, 1, Integer.MIN_VALUE), Checks.BEYOND);
        Checks.same("turns beyond", x.turns(Integer.MAX_VALUE, 1, 1), Checks.BEYOND);
    }

    private static void turnsAmongTheFirstFive() {
        FieldsTold x = new FieldsTold();
        for (int i = 0; i < 5; i++) {
            x.field(10, 1);
        }
        x.field(0, 70);
        x.field(0, 50);
        Checks.tell(x, 0, 5, 2);
        Checks.tell(x, 1, 6, 3);
        Checks.same("the sixth isn't told", x.turns(0, 1, 1), -50);
        Checks.same("all fields count", x.turns(1, 0, 1), 50);
        x.become(4, 0);
        Checks.tell(x, 0, 4, 2);
        x.become(5, 60);
        x.become(6, 60);
        Checks.same("a text", Checks.read(x, 0, "n>1"), 1);
        // 5 and 6 echo what 4 says: told twice by owner 0 is 5, thrice by owner 1 is 6
        Checks.same("as they are", x.turns(0, 1, 0), 71);
        Checks.same("deaf ones take a telling, too", x.turns(0, 1, 1), 71);
        Checks.same("echoes behind the five", x.turns(1, 0, 1), 50);
        Checks.same("the other tells last", x.turns(0, 1, 2), -50);
        Checks.same("the first tells last", x.turns(0, 1, 3), 71);
        Checks.same("the other tells last, and the fifth twice", x.turns(0, 1, 4), -51);
    }

    private static void turnsWithoutATenth() {
        FieldsTold x = new FieldsTold();
        x.field(0, 40);
        Checks.tell(x, 0, 0, 9);
        Checks.tell(x, 1, 0, 3);
        Checks.same("a tenth isn't the last", x.turns(0, 1, 1), -40);
        Checks.tell(x, 1, 0, 5);
        Checks.same("its ninth is the last", x.turns(1, 0, 3), 40);
        Checks.same("minutes", x.count(1), 17);
    }

    // Every owner has to tell, even if that costs a title.
    private static void turnsWithoutAWayOut() {
        FieldsTold x = new FieldsTold();
        x.field(0, 40);
        Checks.same("a text", Checks.read(x, 0, "t<3"), 1);
        Checks.tell(x, 0, 0, 2);
        Checks.same("as it is", x.turns(0, 1, 0), 40);
        Checks.same("by a third telling", x.turns(0, 1, 1), 0);
    }

    private static void thinksOfTenFields() {
        FieldsTold x = new FieldsTold();
        for (int i = 0; i < 10; i++) {
            x.field(8, 10 + i);
            Checks.tell(x, 0, i, 3);
        }
        Checks.same("as they are", x.turns(0, 1, 0), 145);
        Checks.same("the least of the first five", x.turns(1, 0, 1), -145 + 14);
        Checks.same("8 of 16, ten times", x.odds(0, 0), 1);
        Checks.same("8 of 16, ten times", x.odds(0, 1), 1024);
        Checks.same("the last one's silence", x.silence(9, 0), 19);
        Checks.same("coach", x.coach(9), 40);
        Checks.same("needed", x.needed(0, 9), 0);
        Checks.same("gain", x.gain(0, 0), 145);
    }

    private static void ones() {
        FieldsTold x = new FieldsTold();
        Checks.same("a missing sheet", x.one(0, 0), Checks.NONE);
        for (int wild : new int[] {-1, 4, Integer.MIN_VALUE, Integer.MAX_VALUE}) {
            Checks.same("one(" + wild + ", 0)", x.one(wild, 0), Checks.BEYOND);
            Checks.same("one(0, " + wild + ")", x.one(0, wild), Checks.BEYOND);
        }
        Checks.same("one(0, 2)", x.one(0, 2), Checks.BEYOND);
        x.sheet(0, 8, 0);
        Checks.same("no fields, no tellings", x.one(0, 1), Checks.NONE);
        x.field(0, 1);
        x.field(13, 1);
        x.field(60, 1);
        Checks.row(x, 0, 8, -1, 3, 3);
        Checks.same("to the deaf and the even echo", x.one(0, 1), 8);
        Checks.same("the least", x.one(0, 0), 1);
        Checks.row(x, 1, 16, 2, 3, 3);
        Checks.same("one alone", x.one(1, 1), 1);
        Checks.same("the least", x.one(1, 0), 20);
        Checks.row(x, 2, 32, 2, 3);
        Checks.same("of all fields just", x.one(2, 0), Checks.NONE);
        Checks.row(x, 2, 32, 2, 3, 3, -1);
        Checks.same("of all fields just", x.one(2, 1), Checks.NONE);
        Checks.row(x, 2, 32, 2, 2, 2);
        Checks.same("by none", x.one(2, 0), Checks.NONE);
        Checks.same("by none", x.one(2, 1), Checks.NONE);
        Checks.row(x, 2, 32, 258, 3, 3);
        Checks.same("wide numbers are wide", x.one(2, 1), Checks.NONE);
        Checks.tell(x, 0, 0, 9);
        Checks.tell(x, 2, 0, 1);
        Checks.row(x, 0, 8, 0, 3, 3);
        Checks.same("a tenth telling changes nothing", x.one(0, 0), Checks.NONE);
        Checks.same("a tenth telling is one, too", x.one(1, 0), 0);
        Checks.same("how many", x.one(1, 1), 10);
        Checks.same("tellings", x.count(5), 10);
    }

    private static void fears() {
        FieldsTold x = new FieldsTold();
        Checks.same("a missing sheet", x.fears(3, 0), Checks.NONE);
        for (int wild : new int[] {-1, 4, Integer.MIN_VALUE, Integer.MAX_VALUE}) {
            Checks.same("fears(" + wild + ", 0)", x.fears(wild, 0), Checks.BEYOND);
            Checks.same("fears(0, " + wild + ")", x.fears(0, wild), Checks.BEYOND);
        }
        Checks.same("fears(0, 2)", x.fears(0, 2), Checks.BEYOND);
        x.sheet(0, 8, 0);
        Checks.same("all ways", x.fears(0, 1), 24);
        Checks.same("the first", x.fears(0, 0), 123);
        x.field(20, 1);
        x.field(50, 1);
        x.field(51, 1);
        for (int owner = 0; owner < 4; owner++) {
            Checks.tell(x, owner, 0, 1);
        }
        Checks.tell(x, 2, 1, 1);
        Checks.tell(x, 3, 1, 1);
        Checks.row(x, 0, 8, 0, 2, -1);
        Checks.same("owner 0 is feared most, 2 above 3", x.fears(0, 1), 3);
        Checks.same("the first", x.fears(0, 0), 3021);
        Checks.row(x, 0, 8, 2, 3, -1);
        Checks.same("by none", x.fears(0, 0), Checks.NONE);
        Checks.same("by none", x.fears(0, 1), Checks.NONE);
        Checks.row(x, 0, 8, 0, 2);
        Checks.same("of all fields just", x.fears(0, 1), Checks.NONE);
        Checks.row(x, 0, 8, 3, 3, -1);
        Checks.same("as at first", x.fears(0, 0), 123);
        Checks.same("six ways", x.fears(0, 1), 6);
        x.fear(0, 9);
        Checks.same("as they are doesn't matter", x.fears(0, 0), 123);
        Checks.same("fear stays", x.ofOwner(0, 0), 9);
    }

    private static void silences() {
        FieldsTold x = new FieldsTold();
        x.field(0, 10);
        x.field(61, 20);
        x.field(61, 40);
        x.field(0, 80);
        for (int i = 0; i < 4; i++) {
            Checks.tell(x, 1, i, 3);
        }
        Checks.same("with both echoes", x.silence(0, 1), 70);
        Checks.same("with one echo", x.silence(1, 1), 60);
        Checks.same("alone", x.silence(2, 1), 40);
        Checks.same("alone", x.silence(3, 1), 80);
        Checks.same("of another", x.silence(0, 0), 0);
        x.become(1, 31);
        Checks.same("no echo right behind", x.silence(0, 1), 10);
        Checks.tell(x, 2, 2, 3);
        Checks.same("the echo's title is by its own tellings", x.silence(1, 1), 60);
        x.become(0, 61);
        Checks.same("an echo in field 0", x.silence(0, 1), 10);
        for (int wild : new int[] {-1, 4, Integer.MIN_VALUE, Integer.MAX_VALUE}) {
            Checks.same("silence(" + wild + ", 0)", x.silence(wild, 0), Checks.BEYOND);
            Checks.same("silence(0, " + wild + ")", x.silence(0, wild), Checks.BEYOND);
        }
    }

    private static void odds() {
        FieldsTold x = new FieldsTold();
        Checks.same("above, without any", x.odds(3, 0), 1);
        Checks.same("below, without any", x.odds(3, 1), 1);
        x.field(0, 1);
        x.field(8, 1);
        x.field(4, 1);
        x.field(7, 1);
        Checks.tell(x, 2, 0, 3);
        Checks.same("by m 0", x.odds(2, 0), 1);
        Checks.same("by m 0", x.odds(2, 1), 1);
        Checks.tell(x, 2, 1, 3);
        Checks.same("8 of 16", x.odds(2, 0), 1);
        Checks.same("8 of 16", x.odds(2, 1), 2);
        Checks.tell(x, 2, 2, 3);
        Checks.tell(x, 2, 3, 3);
        Checks.same("8, 12, 9 of 16", x.odds(2, 0), 27);
        Checks.same("8, 12, 9 of 16", x.odds(2, 1), 128);
        for (int i = 0; i < 4; i++) {
            x.become(i, 9);
        }
        for (int i = 4; i < 10; i++) {
            x.field(9, 1);
            Checks.tell(x, 2, i, 3);
        }
        Checks.same("7 of 16, ten times", x.odds(2, 0), 282475249L);
        Checks.same("7 of 16, ten times", x.odds(2, 1), 1099511627776L);
        for (int wild : new int[] {-1, 4, Integer.MIN_VALUE, Integer.MAX_VALUE}) {
            Checks.same("odds(" + wild + ", 0)", x.odds(wild, 0), Checks.BEYOND);
            Checks.same("odds(0, " + wild + ")", x.odds(0, wild), Checks.BEYOND);
        }
        Checks.same("odds(0, 2)", x.odds(0, 2), Checks.BEYOND);
        Checks.same("told(1)", x.told(1), 9);
    }

    private static void changesNothing() {
        FieldsTold x = new FieldsTold();
        for (int i = 0; i < 7; i++) {
            x.field(10 * i + 5, 10 + i);
        }
        x.loose(40);
        x.fear(2, 7);
        x.sheet(0, 8, 7);
        for (int i = 0; i < 7; i++) {
            x.put(0, i, x.ofField(i, 6));
        }
        String before = Checks.all(x);
        x.gain(1, 0);
        x.turns(2, 3, 4);
        x.one(0, 0);
        x.fears(0, 1);
        x.silence(0, 2);
        x.odds(2, 0);
        for (int i = 0; i < 7; i++) {
            x.needed(i % 4, i);
        }
        Checks.isTrue("what would be changes nothing", before.equals(Checks.all(x)));
    }
}
