/** Promises 12 and 13: tellings, by owners and by draws. */
final class TellingsTest {
    private TellingsTest() {
    }

    public static void main(String[] args) {
        tellsThreeTimes();
        losesTitles();
        losesEchoesToo();
        losesNoMoreThanItCounts();
        tellsTheDeaf();
        refusesATenth();
        refusesBehindTheLastMinute();
        tellsByDraws();
        drawsWhatIsRefused();
        Checks.end("TellingsTest");
    }

    private static void tellsThreeTimes() {
        FieldsTold x = new FieldsTold();
        x.field(0, 10);
        Checks.same("the first telling", x.tells(3, 0), -1);
        Checks.same("the second telling", x.tells(3, 0), -1);
        Checks.same("the third telling", x.tells(3, 0), 3);
        Checks.same("minutes", x.count(1), 3);
        for (int wild : new int[] {-1, 4, Integer.MIN_VALUE, Integer.MAX_VALUE}) {
            Checks.same("tells(" + wild + ", 0)", x.tells(wild, 0), Checks.BEYOND);
            Checks.same("tells(0, " + wild + ")", x.tells(0, wild), Checks.BEYOND);
        }
        Checks.same("tells(0, 1)", x.tells(0, 1), Checks.BEYOND);
        Checks.same("minutes", x.count(1), 3);
    }

    private static void losesTitles() {
        FieldsTold x = new FieldsTold();
        x.field(0, 10);
        Checks.tell(x, 0, 0, 3);
        Checks.same("none is lost", x.count(2), 0);
        Checks.same("it comes to nobody", x.tells(1, 0), -1);
        Checks.same("one is lost", x.count(2), 1);
        Checks.tell(x, 1, 0, 2);
        Checks.same("nobody's is not lost", x.count(2), 1);
        Checks.same("it is another's", x.ofField(0, 7), 1);
        Checks.same("it comes to another", x.tells(0, 0), 0);
        Checks.same("one more is lost", x.count(2), 2);
        Checks.same("fear alone", x.fear(0, 5), 0);
        Checks.same("a text", Checks.read(x, 0, "0"), 1);
        Checks.same("it is nobody's by the text", x.ofField(0, 7), -1);
        Checks.same("a text alone loses none", x.count(2), 2);
    }

    private static void losesEchoesToo() {
        FieldsTold x = new FieldsTold();
        x.field(0, 10);
        x.field(61, 10);
        x.field(61, 10);
        x.field(0, 10);
        for (int i = 0; i < 3; i++) {
            Checks.tell(x, 2, i, 3);
        }
        Checks.same("three are of one", x.ofOwner(2, 1), 3);
        Checks.same("a telling to the first", x.tells(1, 0), -1);
        Checks.same("all three are lost", x.count(2), 3);
        Checks.same("all are nobody's", x.count(3), 4);
    }

    private static void losesNoMoreThanItCounts() {
        FieldsTold x = new FieldsTold();
        x.field(0, 10);
        for (int i = 1; i < 10; i++) {
            x.field(60, 10);
        }
        Checks.same("a text", Checks.read(x, 0, "1"), 1);
        // By this seed 26 of 100 draws tell field 0, and 25 of them another owner than the one ahead.
        for (int i = 1; i <= 39; i++) {
            x.seed(8451251);
            x.forgets(0);
            x.loose(100);
            Checks.same("all ten are lost 25 times more", x.count(2), 250 * i);
        }
        x.forgets(0);
        x.tells(3, 0);
        for (int i = 0; i < 24; i++) {
            x.tells(i % 4, 0);
        }
        Checks.same("lost", x.count(2), 9990);
        x.tells(1, 0);
        Checks.same("lost at most", x.count(2), 9999);
        x.tells(2, 0);
        Checks.same("lost at most", x.count(2), 9999);
    }

    private static void tellsTheDeaf() {
        FieldsTold x = new FieldsTold();
        x.field(12, 10);
        x.field(49, 10);
        x.field(64, 10);
        x.field(54, 10);
        for (int i = 0; i < 3; i++) {
            for (int n = 0; n < 12; n++) {
                Checks.same("a telling that isn't heard", x.tells(2, i), -1);
            }
            Checks.same("its tellings", x.ofField(i, 9), 0);
            Checks.same("its first", x.ofField(i, 4), -1);
            Checks.same("its last", x.ofField(i, 5), -1);
        }
        Checks.same("minutes", x.count(1), 36);
        Checks.same("a parrot hears", x.tells(1, 3), -1);
        Checks.same("a parrot's last", x.ofField(3, 5), 1);
    }

    private static void refusesATenth() {
        FieldsTold x = new FieldsTold();
        x.field(0, 10);
        Checks.tell(x, 0, 0, 8);
        Checks.same("the ninth", x.tells(0, 0), 0);
        Checks.same("the tenth", x.tells(0, 0), Checks.STATE);
        Checks.same("beyond ahead of state", x.tells(0, 1), Checks.BEYOND);
        Checks.same("minutes", x.count(1), 9);
        Checks.same("another's first", x.tells(1, 0), -1);
        Checks.same("the tenth", x.tells(0, 0), Checks.STATE);
        Checks.same("the last stays", x.ofField(0, 5), 1);
        x.become(0, 10);
        Checks.same("the tenth to a deaf one", x.tells(0, 0), Checks.STATE);
        x.forgets(0);
        Checks.same("behind forgetting", x.tells(0, 0), -1);
    }

    private static void refusesBehindTheLastMinute() {
        FieldsTold x = new FieldsTold();
        x.field(10, 10);
        x.field(0, 10);
        for (int i = 0; i < 99; i++) {
            x.become(1, 10);
            Checks.same("loose(100)", x.loose(100), 100);
        }
        Checks.same("loose(98)", x.loose(98), 98);
        Checks.same("minutes", x.count(1), 9998);
        Checks.same("the last minute", x.tells(0, 0), -1);
        Checks.same("minutes", x.count(1), 9999);
        Checks.same("one minute more", x.tells(0, 0), Checks.STATE);
        int z = x.count(9);
        Checks.same("loose behind it", x.loose(1), 0);
        int once = z * 1103515245 + 12345;
        Checks.same("it draws twice all the same", x.count(9), once * 1103515245 + 12345);
        Checks.same("minutes", x.count(1), 9999);
    }

    private static void tellsByDraws() {
        FieldsTold x = new FieldsTold();
        for (int i = 0; i < 3; i++) {
            x.field(0, 10);
        }
        int z = 1;
        int[][] told = new int[3][4];
        for (int i = 0; i < 20; i++) {
            z = z * 1103515245 + 12345;
            int owner = (z >>> 8) % 4;
            z = z * 1103515245 + 12345;
            told[(z >>> 8) % 3][owner]++;
        }
        Checks.same("loose(20)", x.loose(20), 20);
        Checks.same("z", x.count(9), z);
        Checks.same("minutes", x.count(1), 20);
        for (int i = 0; i < 12; i++) {
            Checks.same("tellings by draws", x.tellings(i / 4, i % 4), told[i / 4][i % 4]);
        }
        for (int wild : new int[] {0, -1, 101, Integer.MIN_VALUE, Integer.MAX_VALUE}) {
            Checks.same("loose(" + wild + ")", x.loose(wild), Checks.BEYOND);
            Checks.same("beyond ahead of state", new FieldsTold().loose(wild), Checks.BEYOND);
        }
        Checks.same("loose without fields", new FieldsTold().loose(1), Checks.STATE);
        Checks.same("loose without fields", new FieldsTold().loose(100), Checks.STATE);
        Checks.same("z", x.count(9), z);
    }

    private static void drawsWhatIsRefused() {
        FieldsTold x = new FieldsTold();
        x.field(0, 10);
        int z = 7;
        x.seed(z);
        int[] told = new int[4];
        int done = 0;
        for (int i = 0; i < 100; i++) {
            z = z * 1103515245 + 12345;
            int owner = (z >>> 8) % 4;
            z = z * 1103515245 + 12345;
            if (told[owner] < 9) {
                told[owner]++;
                done++;
            }
        }
        Checks.same("loose(100)", x.loose(100), done);
        Checks.same("minutes", x.count(1), done);
        Checks.same("all nine times", x.count(5), 36);
        Checks.same("z", x.count(9), z);
        Checks.same("loose(100)", x.loose(100), 0);
    }
}
