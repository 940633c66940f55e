/** Counts what is as due and tells what is not. */
final class Checks {
    static final int LOW = -1000000000;
    static final int BEYOND = LOW - 1;
    static final int NONE = LOW - 2;
    static final int STATE = LOW - 3;
    static final int FULL = LOW - 4;
    static final int KIND = LOW - 5;
    static final int[] WILD = {Integer.MIN_VALUE, -1000000001, -101, -2, 100, 1000, 65536, Integer.MAX_VALUE};

    private static int right = 0;
    private static int wrong = 0;

    private Checks() {
    }

    static void same(String what, long got, long due) {
        if (got == due) {
            right++;
        } else {
            wrong++;
            System.out.println(what + " answered " + got + ", due is " + due);
        }
    }

    static void isTrue(String what, boolean isSo) {
        if (isSo) {
            right++;
        } else {
            wrong++;
            System.out.println(what);
        }
    }

    /** Puts a text on the tape, eight bytes at most a call. */
    static void feed(FieldsTold x, String text) {
        for (int from = 0; from < text.length(); from += 8) {
            int n = Math.min(8, text.length() - from);
            long word = 0;
            for (int i = n - 1; i >= 0; i--) {
                word = word << 8 | text.charAt(from + i) & 255;
            }
            same("feed of " + text + " from " + from, x.feed(word, n), from + n);
        }
    }

    static int read(FieldsTold x, int use, String text) {
        feed(x, text);
        return x.text(use);
    }

    static void tell(FieldsTold x, int owner, int field, int times) {
        for (int i = 0; i < times; i++) {
            x.tells(owner, field);
        }
    }

    static void row(FieldsTold x, int sheet, int bits, int... numbers) {
        x.sheet(sheet, bits, numbers.length);
        for (int i = 0; i < numbers.length; i++) {
            x.put(sheet, i, numbers[i]);
        }
    }

    /** All that answers can show but sheets, the trace and errors told. */
    static String all(FieldsTold x) {
        StringBuilder told = new StringBuilder();
        for (int i = 0; i < x.count(0); i++) {
            for (int what = 0; what < 10; what++) {
                told.append(x.ofField(i, what)).append(' ');
            }
            for (int owner = 0; owner < 4; owner++) {
                told.append(x.tellings(i, owner)).append(' ');
            }
        }
        for (int what = 0; what < 10; what++) {
            told.append(x.count(what)).append(' ');
        }
        for (int owner = 0; owner < 4; owner++) {
            told.append(x.ofOwner(owner, 0)).append(' ');
        }
        told.append(x.law(0, 1, 20, 30)).append(' ').append(x.law(1, 1, 20, 30));
        return told.toString();
    }

    static void end(String name) {
        System.out.println(name + ": " + right + " right, " + wrong + " wrong");
        if (wrong != 0) {
            System.exit(1);
        }
    }
}
