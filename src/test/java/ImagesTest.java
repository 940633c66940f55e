/** Promises 33 to 38: images, numbers that wait, what is told. */
final class ImagesTest {
    private ImagesTest() {
    }

    public static void main(String[] args) {
        keepsAll();
        keepsNoSheets();
        keepsTheLatest();
        tellsAndChecks();
        counts();
        tellsOfErrors();
        errorsChangeNothing();
        Checks.end("ImagesTest");
    }

    private static void keepsAll() {
        FieldsTold x = new FieldsTold();
        Checks.same("no image", x.restore(), Checks.NONE);
        x.field(37, 50);
        x.field(0, 60);
        Checks.tell(x, 1, 0, 4);
        Checks.tell(x, 2, 0, 1);
        Checks.tell(x, 3, 1, 3);
        Checks.tell(x, 0, 1, 1);
        x.set(0, 1, 7);
        x.fear(2, 8);
        x.pace(9);
        x.seed(99);
        Checks.same("a title", Checks.read(x, 0, "n>1"), 1);
        Checks.same("a rent", Checks.read(x, 1, "a+m"), 1);
        Checks.feed(x, "n+5");
        x.tell(1);
        x.tell(0);
        Checks.same("image", x.image(), 1);
        String kept = Checks.all(x);
        changeAll(x);
        Checks.isTrue("all is changed", !kept.equals(Checks.all(x)));
        Checks.same("lost", x.count(2), 2);
        Checks.same("restore", x.restore(), 9);
        Checks.isTrue("all is as it was", kept.equals(Checks.all(x)));
        Checks.same("lost", x.count(2), 1);
        Checks.same("the tape's bytes", x.text(0), 1);
        Checks.same("the tape's text", x.law(0, 6, 0, 0), 11);
        Checks.same("the numbers that wait", x.check(), 0);
        changeAll(x);
        Checks.same("the image stays", x.restore(), 9);
        Checks.isTrue("all is as it was", kept.equals(Checks.all(x)));
        Checks.same("the numbers that wait", x.check(), 0);
        Checks.same("a new field is new", x.field(0, 1), 2);
        Checks.same("a new field is new", x.ofField(2, 9), 0);
        Checks.same("a new field is new", x.ofField(2, 3), 0);
    }

    private static void changeAll(FieldsTold x) {
        x.field(0, 1);
        x.set(2, 1, 3);
        x.tells(0, 2);
        x.become(0, 14);
        x.set(0, 0, 3);
        x.set(0, 1, 3);
        x.set(1, 1, 3);
        x.forgets(0);
        Checks.tell(x, 3, 1, 1);
        Checks.tell(x, 0, 1, 2);
        x.fear(2, 1);
        x.pace(3);
        x.seed(4);
        x.text(0);
        Checks.read(x, 0, "f+t+n");
        Checks.read(x, 1, "n+n+n+n");
        Checks.feed(x, "t*t*t");
        x.check();
        x.tell(7);
    }

    private static void keepsNoSheets() {
        FieldsTold x = new FieldsTold();
        x.field(54, 10);
        x.sheet(0, 8, 1);
        x.put(0, 0, 20);
        x.voice(0, 3, 1);
        Checks.same("image", x.image(), 1);
        x.put(0, 0, 30);
        x.sheet(1, 8, 1);
        x.voice(0, 0, 1);
        x.field(0, 0);
        Checks.same("restore", x.restore(), 0);
        Checks.same("acres", x.acres(0), 1);
        Checks.same("a sheet is as it is", x.ofField(0, 2), 30);
        Checks.same("a sheet is as it is", x.judge(1), 0);
        Checks.same("the trace is as it is", x.count(8), 1);
        Checks.same("what is told", x.told(1), 1);
        Checks.same("image", x.image(), 2);
        x.restore();
        Checks.same("image", x.image(), 3);
    }

    private static void keepsTheLatest() {
        FieldsTold x = new FieldsTold();
        x.field(0, 10);
        x.image();
        x.tells(0, 0);
        Checks.same("image", x.image(), 2);
        x.tells(0, 0);
        Checks.same("restore", x.restore(), 1);
        Checks.same("its tellings", x.tellings(0, 0), 1);
        x.tells(1, 0);
        Checks.same("the image isn't what is told since", x.restore(), 1);
        Checks.same("its tellings", x.tellings(0, 1), 0);
        Checks.same("lost", x.count(2), 0);
    }

    private static void tellsAndChecks() {
        FieldsTold x = new FieldsTold();
        Checks.same("none wait", x.check(), 0);
        x.field(0, 1);
        x.field(13, 1);
        Checks.tell(x, 2, 0, 1);
        int[][] rows = {{2}, {2, 3}, {2, 3, -1}, {2, 3, -1, -1}, {3}, {2, 2}, {2, 3, 0}, {2, 3, -1, 5}, {-1}, {2, -1, -1}};
        int[] due = {0, 0, 0, 0, 1, 2, 3, 4, 1, 2};
        for (int i = 0; i < rows.length; i++) {
            for (int k = 0; k < rows[i].length; k++) {
                Checks.same("tell", x.tell(rows[i][k]), k + 1);
            }
            Checks.same("numbers that wait", x.count(7), rows[i].length);
            Checks.same("check of row " + i, x.check(), due[i]);
            Checks.same("none wait then", x.count(7), 0);
        }
        x.tell(2);
        x.tells(1, 0);
        Checks.same("what they say now", x.check(), 1);
        for (int k = 0; k < 20; k++) {
            Checks.same("tell", x.tell(k == 0 ? 1 : k == 1 ? 3 : k == 19 ? Integer.MIN_VALUE : -1), k + 1);
        }
        Checks.same("a 21st", x.tell(0), Checks.FULL);
        Checks.same("numbers that wait", x.count(7), 20);
        Checks.same("the last isn't so", x.check(), 20);
    }

    private static void counts() {
        FieldsTold x = new FieldsTold();
        x.field(5, 1);
        x.field(54, 2);
        x.field(0, 3);
        Checks.tell(x, 1, 0, 3);
        Checks.tell(x, 2, 0, 1);
        Checks.tell(x, 3, 2, 3);
        x.pace(11);
        Checks.feed(x, "abcd");
        x.tell(1);
        x.tell(1);
        x.voice(1, 3, 0);
        x.seed(-5);
        int[] due = {3, 7, 1, 2, 11, 7, 4, 2, 9, -5};
        for (int what = 0; what < 10; what++) {
            Checks.same("count(" + what + ")", x.count(what), due[what]);
        }
        for (int wild : new int[] {-1, 10, Integer.MIN_VALUE, Integer.MAX_VALUE}) {
            Checks.same("count(" + wild + ")", x.count(wild), Checks.BEYOND);
        }
        x.seed(Checks.BEYOND);
        Checks.same("z is any number", x.count(9), Checks.BEYOND);
        Checks.same("and no error", x.told(1), 4);
    }

    private static void tellsOfErrors() {
        FieldsTold x = new FieldsTold();
        for (int k = 1; k <= 5; k++) {
            Checks.same("told(" + k + ")", x.told(k), 0);
        }
        Checks.same("beyond", x.told(0), Checks.BEYOND);
        Checks.same("beyond", x.told(6), Checks.BEYOND);
        Checks.same("beyond", x.told(Integer.MIN_VALUE), Checks.BEYOND);
        Checks.same("beyond", x.told(Integer.MAX_VALUE), Checks.BEYOND);
        Checks.same("counted, too", x.told(1), 4);
        Checks.same("none", x.trace(0), Checks.NONE);
        Checks.same("state", x.loose(1), Checks.STATE);
        Checks.same("state", x.turns(0, 1, 1), Checks.STATE);
        x.field(0, 1);
        Checks.same("kind", x.as(0, 1), Checks.KIND);
        Checks.same("kind", x.as(0, 2), Checks.KIND);
        Checks.same("kind", x.as(0, 3), Checks.KIND);
        for (int i = 0; i < 24; i++) {
            x.tell(i);
        }
        Checks.same("odds beyond", x.odds(4, 0), Checks.BEYOND);
        int[] due = {5, 1, 2, 4, 3};
        for (int k = 1; k <= 5; k++) {
            Checks.same("told(" + k + ")", x.told(k), due[k - 1]);
        }
    }

    private static void errorsChangeNothing() {
        FieldsTold x = new FieldsTold();
        x.field(24, 10);
        x.field(51, 20);
        x.loose(30);
        x.image();
        x.tell(4);
        Checks.feed(x, "n+");
        String before = Checks.all(x);
        for (int wild : Checks.WILD) {
            x.field(wild, 1);
            x.ofField(wild, 0);
            x.tellings(0, wild);
            x.ofOwner(wild, 1);
            x.become(0, wild);
            x.as(0, wild);
            x.set(0, 0, wild == 100 ? 0 : wild);
            x.fear(0, wild);
            x.pace(wild);
            x.forgets(wild);
            x.tells(wild, 0);
            x.feed(-1, wild);
            x.text(wild);
            x.law(wild, 1, 1, 1);
            x.needed(0, wild);
            x.coach(wild);
            x.gain(wild, 0);
            x.turns(0, 1, wild);
            x.voice(wild, 0, 0);
            x.trace(wild);
            x.sheet(0, 8, wild);
            x.put(wild, 0, 0);
            x.move(wild, 0, 0, 0, 0);
            x.acres(wild);
            x.judge(wild);
            x.count(wild);
            x.told(wild);
        }
        Checks.isTrue("errors change nothing", before.equals(Checks.all(x)));
    }
}
