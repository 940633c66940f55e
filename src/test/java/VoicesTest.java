/** Promises 25 to 27: draws' seed, voices, the trace. */
final class VoicesTest {
    private VoicesTest() {
    }

    public static void main(String[] args) {
        seeds();
        speaks();
        wraps();
        refuses();
        Checks.end("VoicesTest");
    }

    private static void seeds() {
        FieldsTold x = new FieldsTold();
        Checks.same("seed", x.seed(Integer.MIN_VALUE), 1);
        Checks.same("seed", x.seed(Checks.BEYOND), Integer.MIN_VALUE);
        Checks.same("seed", x.seed(0), Checks.BEYOND);
        Checks.same("z", x.count(9), 0);
        Checks.same("none is an error", x.told(1), 0);
        x.field(10, 1);
        x.loose(1);
        Checks.same("z by draws", x.count(9), 12345 * 1103515245 + 12345);
    }

    private static void voice(FieldsTold x, int km, int act, int due, int... bodies) {
        x.become(3, km);
        String what = "voice " + act + " of " + km;
        Checks.same(what, x.voice(3, act, 20), due);
        Checks.same("bodies of " + what, x.count(8), bodies.length);
        for (int i = 0; i < bodies.length; i++) {
            Checks.same("trace " + i + " of " + what, x.trace(i), bodies[i]);
        }
        Checks.same("behind the trace of " + what, x.trace(bodies.length), Checks.NONE);
    }

    // By n 3, m 4 or 5, x 20.
    private static void speaks() {
        FieldsTold x = new FieldsTold();
        for (int i = 0; i < 4; i++) {
            x.field(0, 1);
        }
        voice(x, 4, 0, 23, 10);
        voice(x, 4, 1, 46, 11, 10);
        voice(x, 4, 2, 16, 12);
        voice(x, 4, 3, 46 ^ 16, 13, 11, 10, 12);
        voice(x, 15, 0, 69, 20, 10);
        voice(x, 15, 1, 138, 11, 20, 10);
        voice(x, 15, 2, 15, 12);
        voice(x, 15, 3, 138 ^ 15, 13, 11, 20, 10, 12);
        voice(x, 24, 0, 23, 10);
        voice(x, 24, 1, 46, 11, 10);
        voice(x, 24, 2, -16, 30, 12);
        voice(x, 24, 3, 46 ^ -16, 13, 11, 10, 30, 12);
        voice(x, 34, 0, 23, 10);
        voice(x, 34, 1, 46 + 3, 40, 11, 10, 12);
        voice(x, 34, 2, 16, 12);
        voice(x, 34, 3, 49 ^ 16, 13, 40, 11, 10, 12, 12);
        voice(x, 44, 0, 69, 20, 10);
        voice(x, 44, 1, 138, 11, 20, 10);
        voice(x, 44, 2, 16, 12);
        voice(x, 44, 3, (138 ^ 16) - 15, 50, 13, 11, 20, 10, 12, 20, 10);
        voice(x, 54, 0, 23, 10);
        voice(x, 54, 1, 46, 11, 10);
        voice(x, 54, 2, -16 ^ 3, 60, 30, 12);
        voice(x, 54, 3, 46 - (46 ^ -16 ^ 3), 61, 11, 10, 13, 11, 10, 60, 30, 12);
        voice(x, 64, 0, 23, 10);
        voice(x, 64, 1, 48 + 3, 70, 40, 11, 10, 12);
        voice(x, 64, 2, 16, 12);
        voice(x, 64, 3, 51 ^ 16, 13, 70, 40, 11, 10, 12, 12);
    }

    private static void wraps() {
        FieldsTold x = new FieldsTold();
        x.field(19, 1);
        x.field(19, 1);
        int most = Integer.MAX_VALUE;
        Checks.same("hears", x.voice(1, 0, most), (most + 1) * 3);
        Checks.same("says", x.voice(1, 1, most), (most + 1) * 3 * 2);
        x.become(1, 29);
        Checks.same("fears", x.voice(1, 2, Integer.MIN_VALUE), -(Integer.MIN_VALUE - 9));
        x.become(1, 0);
        Checks.same("no error", x.voice(1, 0, Checks.BEYOND - 1), Checks.BEYOND);
        Checks.same("none is counted", x.told(1), 0);
    }

    private static void refuses() {
        FieldsTold x = new FieldsTold();
        Checks.same("voice without fields", x.voice(0, 0, 0), Checks.BEYOND);
        x.field(54, 1);
        x.voice(0, 3, 1);
        for (int wild : new int[] {-1, 4, Integer.MIN_VALUE, Integer.MAX_VALUE}) {
            Checks.same("voice(" + wild + ", 0, 0)", x.voice(wild, 0, 0), Checks.BEYOND);
            Checks.same("voice(0, " + wild + ", 0)", x.voice(0, wild, 0), Checks.BEYOND);
        }
        Checks.same("voice(1, 0, 0)", x.voice(1, 0, 0), Checks.BEYOND);
        Checks.same("the trace stays", x.count(8), 9);
        for (int wild : new int[] {-1, 9, 40, Integer.MIN_VALUE, Integer.MAX_VALUE}) {
            Checks.same("trace(" + wild + ")", x.trace(wild), Checks.NONE);
        }
        Checks.same("the trace stays", x.trace(8), 12);
        x.voice(0, 0, 0);
        Checks.same("a shorter trace", x.count(8), 1);
        Checks.same("a shorter trace", x.trace(1), Checks.NONE);
    }
}
