import java.util.function.Supplier;

/** What the tests of edges share: acts refused, acts allowed, bounds looked at from both sides. */
final class Edges {
    interface Act {
        long on(FieldsTold x);
    }

    interface ActBy {
        long on(FieldsTold x, int v);
    }

    private Edges() {
    }

    /** The act answers the error, counts it once, and changes nothing else: the twin that did not act is alike. */
    static void refused(String sentence, Supplier<FieldsTold> maker, Act act, int error) {
        FieldsTold x = maker.get();
        FieldsTold twin = maker.get();
        Checks.same(sentence, act.on(x), error);
        for (int k = 1; k <= 5; k++) {
            int more = error == Checks.LOW - k ? 1 : 0;
            Checks.same(sentence + ": told(" + k + ")", x.told(k), twin.told(k) + more);
        }
        String is = whole(x);
        String due = whole(twin);
        Checks.isTrue(sentence + " is refused, but changed\n" + due + "\nto\n" + is, is.equals(due));
    }

    /** The act answers what is due, and no error is counted. */
    static void allowed(String sentence, Supplier<FieldsTold> maker, Act act, long due) {
        FieldsTold x = maker.get();
        int errors = errorsOf(x);
        Checks.same(sentence, act.on(x), due);
        Checks.same(sentence + ": errors", errorsOf(x), errors);
    }

    /** Nothing but numbers from the least to the most is allowed; all else is BEYOND. */
    static void bounds(String sentence, Supplier<FieldsTold> maker, ActBy act, int least, int most) {
        for (int v : new int[] {Integer.MIN_VALUE, least - 1, most + 1, Integer.MAX_VALUE}) {
            refused(sentence + ", by " + v, maker, x -> act.on(x, v), Checks.BEYOND);
        }
        for (int v : new int[] {least, most}) {
            FieldsTold x = maker.get();
            int errors = x.told(1);
            act.on(x, v);
            Checks.same(sentence + ", by " + v + ": BEYOND told", x.told(1), errors);
        }
    }

    static int errorsOf(FieldsTold x) {
        int sum = 0;
        for (int k = 1; k <= 5; k++) {
            sum += x.told(k);
        }
        return sum;
    }

    /** A road with a field of each kind, nothing in it as at first, and room for more of everything. */
    static FieldsTold rich() {
        FieldsTold x = new FieldsTold();
        int[] kms = {4, 15, 26, 37, 49, 55, 61};
        for (int i = 0; i < kms.length; i++) {
            x.field(kms[i], 10 + i);
            x.set(i, 1, i + 1);
        }
        Checks.read(x, 0, "n>1");
        Checks.read(x, 1, "a*2-m");
        x.fear(1, 5);
        x.pace(6);
        Checks.tell(x, 1, 0, 2);
        Checks.tell(x, 2, 3, 3);
        x.image();
        Checks.tell(x, 3, 0, 1);
        Checks.tell(x, 0, 5, 3);
        Checks.tell(x, 2, 6, 2);
        Checks.feed(x, "n+5");
        x.tell(3);
        x.tell(3);
        Checks.row(x, 0, 8, 11, 12, 13);
        Checks.row(x, 1, 16, 21, 22, 23, 24);
        x.sheet(2, 32, 40);
        x.put(2, 0, 31);
        x.put(2, 39, 32);
        x.seed(77);
        x.voice(5, 3, 4);
        return x;
    }

    static FieldsTold bare() {
        return new FieldsTold();
    }

    static FieldsTold tenFields() {
        return road(0, 10);
    }

    /** So many fields of 99 acres with mowers of one kind and number. */
    static FieldsTold road(int km, int fields) {
        FieldsTold x = new FieldsTold();
        for (int i = 0; i < fields; i++) {
            x.field(km, 99);
        }
        return x;
    }

    /** One field with a mower that nobody told, in minute 9998. */
    static FieldsTold lateRoad() {
        FieldsTold x = road(10, 1);
        for (int i = 0; i < 99; i++) {
            x.loose(100);
        }
        x.loose(98);
        x.become(0, 0);
        return x;
    }

    /** Everything that calls can show of an object; it is of no use behind that. */
    static String whole(FieldsTold x) {
        StringBuilder told = new StringBuilder(Checks.all(x));
        told.append("; trace");
        for (int i = 0; i < x.count(8); i++) {
            told.append(' ').append(x.trace(i));
        }
        told.append("; laws ").append(x.law(0, 2, 3, -4)).append(' ').append(x.law(1, 20, 3, 4));
        told.append("; waiting ").append(x.check());
        for (int sheet = 0; sheet < 4; sheet++) {
            told.append("; sheet ").append(sheet).append(": ").append(sheetOf(x, sheet));
        }
        told.append("; tape ").append(x.text(0)).append(' ').append(x.law(0, 2, 3, -4));
        told.append("; image ").append(x.restore());
        told.append(' ').append(Checks.all(x)).append(' ').append(x.image());
        return told.toString();
    }

    private static String sheetOf(FieldsTold x, int sheet) {
        StringBuilder told = new StringBuilder().append(x.judge(sheet)).append(' ').append(x.acres(sheet));
        for (int i = 0; i < x.count(0); i++) {
            told.append(' ').append(x.ofField(i, 2));
        }
        int numbers = 0;
        for (int step = 32; step > 0; step /= 2) {
            if (x.move(sheet, 0, sheet, 0, numbers + step) == numbers + step) {
                numbers += step;
            }
        }
        told.append(" of ").append(numbers).append(" numbers, the last ");
        if (numbers > 0) {
            x.move(sheet, numbers - 1, sheet, 0, 1);
            told.append(x.acres(sheet)).append(' ').append(x.ofField(0, 2));
            x.put(sheet, 0, 256 + 7);
            told.append(", wide ").append(x.acres(sheet));
            x.put(sheet, 0, 65536 + 7);
            told.append(x.acres(sheet));
        }
        return told.toString();
    }
}
