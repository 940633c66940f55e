/** Counts what is as due and tells what is not. */
final class Checks {
    static final int LOW = -1000000000;
    static final int BEYOND = LOW - 1;
    static final int NONE = LOW - 2;
    static final int STATE = LOW - 3;
    static final int FULL = LOW - 4;
    static final int KIND = LOW - 5;
    static final int[] WILD = {Integer.MIN_VALUE, -1000000001, -101, -2, 100, 1000, 65536, Integer.MAX_VALUE};

    private static int right = 0;
    private static int wrong = 0;

    private Checks() {
    }

    static void same(String what, long got, long due) {
        if (got == due) {
            right++;
        } else {
            wrong++;
            System.out.println(what + " answered " + got + ", due is " + due);
        }
    }

    static void isTrue(String what, boolean isSo) {
        if (isSo) {
            right++;
        } else {
            wrong++;
            System.out.println(what);
        }
    }

    /** Puts a text on the tape, eight bytes at most a call. */
    static void feed(FieldsTold x, String text) {
        for (int from = 0; from < text.length(); from += 8) {
            int n = Math.min(8, text.length() - from);
            long word = 0;
            for (int i = n - 1; i >= 0; i--) {
                word = word << 8 | text.charAt(from + i) & 255;
            }
            same("feed of " + text + " from " + from, x.feed(word, n), from + n);
        }
    }

    static int read(FieldsTold x, int use, String text) {
        feed(x, text);
        return x.text(use);
    }

    static void tell(FieldsTold x, int owner, int field, int times) {
        for (int i = 0; i < times; i++) {
            x.tells(owner, field);
        }
    }

    static void end(String name) {
        System.out.println(name + ": " + right + " right, " + wrong + " wrong");
        if (wrong != 0) {
            System.exit(1);
        }
    }
}
