import java.util.ArrayList;
import java.util.Arrays;
import java.util.List;

/** The document once more, by other ways: copies instead of undoing, texts split instead of compiled, real subclasses. */
final class Model {
    static final class World {
        List<Plot> road = new ArrayList<>();
        int[] fear = {0, 1, 2, 3};
        String[] texts = {"n>2", "a"};
        String tape = "";
        List<Integer> waiting = new ArrayList<>();
        int pace = 4;
        int minute;
        int lost;
        int z = 1;

        World copy() {
            World w = new World();
            for (Plot p : road) {
                w.road.add(p.copy());
            }
            w.fear = fear.clone();
            w.texts = texts.clone();
            w.tape = tape;
            w.waiting = new ArrayList<>(waiting);
            w.pace = pace;
            w.minute = minute;
            w.lost = lost;
            w.z = z;
            return w;
        }

        Integer says(int i, int silent) {
            if (i == silent) {
                return -1;
            }
            Plot p = road.get(i);
            if (p.kind == 6 && i > 0) {
                return says(i - 1, silent);
            }
            List<Integer> tellers = new ArrayList<>();
            for (int o = 0; o < 4; o++) {
                if (p.told[o] > 0) {
                    tellers.add(o);
                }
            }
            tellers.sort((a, b) -> {
                boolean byTellings = p.kind == 5 && p.m % 2 != 0;
                int by = byTellings ? p.told[b] - p.told[a] : fear[b] - fear[a];
                return by != 0 ? by : a - b;
            });
            return switch (p.kind) {
                case 0 -> p.last;
                case 1 -> p.m % 4;
                case 4 -> i < p.m ? p.m % 4 : -1;
                case 3, 6 -> p.first;
                default -> tellers.isEmpty() ? -1 : tellers.get(0);
            };
        }

        int owner(int i, int silent) {
            int o = says(i, silent);
            if (o < 0) {
                return -1;
            }
            Plot p = road.get(i);
            return Texts.gives(texts[0], "ntf", p.told[o], p.sum(), fear[o]) != 0 ? o : -1;
        }

        int rent(int i) {
            int o = owner(i, -1);
            Plot p = road.get(i);
            return o < 0 ? 0 : held(Texts.gives(texts[1], "anm", p.acres, p.told[o], p.m));
        }

        int acres(int owner, int silent) {
            int sum = 0;
            for (int i = 0; i < road.size(); i++) {
                sum += owner(i, silent) == owner ? road.get(i).acres : 0;
            }
            return sum;
        }

        void telling(int owner, int i) {
            int[] before = new int[road.size()];
            for (int k = 0; k < before.length; k++) {
                before[k] = owner(k, -1);
            }
            road.get(i).hear(owner);
            for (int k = 0; k < before.length; k++) {
                if (before[k] != -1 && owner(k, -1) != before[k]) {
                    lost = Math.min(9999, lost + 1);
                }
            }
            minute++;
        }

        int needed(int owner, int i) {
            World w = copy();
            for (int n = 0; n <= 9; n++) {
                if (w.owner(i, -1) == owner) {
                    return n;
                }
                w.road.get(i).hear(owner);
            }
            return -1;
        }

        int turns(int one, int two, int done, int n) {
            if (done == n) {
                return acres(one, -1) - acres(two, -1);
            }
            List<Integer> ends = new ArrayList<>();
            for (int i = 0; i < Math.min(5, road.size()); i++) {
                World w = copy();
                w.road.get(i).hear(done % 2 == 0 ? one : two);
                ends.add(w.turns(one, two, done + 1, n));
            }
            ends.sort(null);
            return done % 2 == 0 ? ends.get(ends.size() - 1) : ends.get(0);
        }

        boolean saysAll(int[] row) {
            if (row.length != road.size()) {
                return false;
            }
            for (int i = 0; i < row.length; i++) {
                if (says(i, -1) != row[i]) {
                    return false;
                }
            }
            return true;
        }
    }

    static final class Plot {
        int kind;
        int m;
        int acres;
        int ditch;
        int[] told = new int[4];
        int first = -1;
        int last = -1;

        Plot copy() {
            Plot p = new Plot();
            p.kind = kind;
            p.m = m;
            p.acres = acres;
            p.ditch = ditch;
            p.told = told.clone();
            p.first = first;
            p.last = last;
            return p;
        }

        int sum() {
            return told[0] + told[1] + told[2] + told[3];
        }

        void hear(int owner) {
            boolean hears = kind != 1 && kind != 4 && (kind != 6 || m % 2 == 1);
            if (hears && told[owner] < 9) {
                told[owner]++;
                last = owner;
                first = first < 0 ? owner : first;
            }
        }
    }

    World now = new World();
    World image;
    int images;
    List<Integer> trace = new ArrayList<>();
    int[][] sheets = new int[4][];
    int[] bits = new int[4];
    int[] errors = new int[6];

    static int held(int v) {
        return v < 0 ? 0 : v > 999 ? 999 : v;
    }

    private int err(int k) {
        errors[k]++;
        return Checks.LOW - k;
    }

    private static boolean in(int v, int a, int b) {
        return a <= v && v <= b;
    }

    private boolean isField(int i) {
        return in(i, 0, now.road.size() - 1);
    }

    int field(int km, int acres) {
        if (!in(km, 0, 69) || !in(acres, 1, 99)) {
            return err(1);
        }
        if (now.road.size() == 10) {
            return err(4);
        }
        Plot p = new Plot();
        p.kind = km / 10;
        p.m = km % 10;
        p.acres = acres;
        now.road.add(p);
        return now.road.size() - 1;
    }

    int ofField(int i, int what) {
        if (!isField(i) || !in(what, 0, 9)) {
            return err(1);
        }
        Plot p = now.road.get(i);
        return new int[] {p.kind, p.m, p.acres, p.ditch, p.first, p.last, now.says(i, -1), now.owner(i, -1),
            now.rent(i), p.sum()}[what];
    }

    int tellings(int i, int owner) {
        return !isField(i) || !in(owner, 0, 3) ? err(1) : now.road.get(i).told[owner];
    }

    int ofOwner(int owner, int what) {
        if (!in(owner, 0, 3) || !in(what, 0, 3)) {
            return err(1);
        }
        int[] sums = {now.fear[owner], 0, 0, 0};
        for (int i = 0; i < now.road.size(); i++) {
            if (now.owner(i, -1) == owner) {
                sums[1]++;
                sums[2] += now.road.get(i).acres;
                sums[3] += now.rent(i);
            }
        }
        return sums[what];
    }

    int become(int i, int km) {
        if (!isField(i) || !in(km, 0, 69)) {
            return err(1);
        }
        Plot p = now.road.get(i);
        int was = p.kind;
        p.kind = km / 10;
        p.m = km - 10 * p.kind;
        return was;
    }

    int as(int i, int kind) {
        if (!isField(i) || !in(kind, 0, 6)) {
            return err(1);
        }
        Mower mower = mower(now.road.get(i), i);
        boolean is = switch (kind) {
            case 0 -> true;
            case 1 -> mower instanceof Deaf;
            case 2 -> mower instanceof Fearful;
            case 3 -> mower instanceof Loyal;
            case 4 -> mower instanceof Silent;
            case 5 -> mower instanceof Parrot;
            default -> mower instanceof Echo;
        };
        return is ? mower.m : err(5);
    }

    int set(int i, int what, int v) {
        if (!isField(i) || !in(what, 0, 1) || (what == 0 ? !in(v, 1, 99) : !in(v, 0, 9))) {
            return err(1);
        }
        Plot p = now.road.get(i);
        int was = what == 0 ? p.acres : p.ditch;
        p.acres = what == 0 ? v : p.acres;
        p.ditch = what == 1 ? v : p.ditch;
        return was;
    }

    int fear(int owner, int v) {
        if (!in(owner, 0, 3) || !in(v, 0, 9)) {
            return err(1);
        }
        int was = now.fear[owner];
        now.fear[owner] = v;
        return was;
    }

    int pace(int v) {
        if (!in(v, 1, 20)) {
            return err(1);
        }
        int was = now.pace;
        now.pace = v;
        return was;
    }

    int forgets(int i) {
        if (!isField(i)) {
            return err(1);
        }
        Plot p = now.road.get(i);
        int was = p.sum();
        p.told = new int[4];
        p.first = -1;
        p.last = -1;
        return was;
    }

    private boolean isRefused(int owner, int i) {
        return now.road.get(i).told[owner] == 9 || now.minute == 9999;
    }

    int tells(int owner, int i) {
        if (!in(owner, 0, 3) || !isField(i)) {
            return err(1);
        }
        if (isRefused(owner, i)) {
            return err(3);
        }
        now.telling(owner, i);
        return now.owner(i, -1);
    }

    int loose(int n) {
        if (!in(n, 1, 100)) {
            return err(1);
        }
        if (now.road.isEmpty()) {
            return err(3);
        }
        int done = 0;
        for (int i = 0; i < n; i++) {
            now.z = now.z * 1103515245 + 12345;
            int owner = (now.z >>> 8) % 4;
            now.z = now.z * 1103515245 + 12345;
            int at = (now.z >>> 8) % now.road.size();
            if (!isRefused(owner, at)) {
                now.telling(owner, at);
                done++;
            }
        }
        return done;
    }

    int feed(long word, int n) {
        if (!in(n, 1, 8)) {
            return err(1);
        }
        if (now.tape.length() + n > 50) {
            return err(4);
        }
        for (int i = 0; i < n; i++) {
            now.tape += (char) (word & 255);
            word >>= 8;
        }
        return now.tape.length();
    }

    int text(int use) {
        if (!in(use, 0, 1)) {
            return err(1);
        }
        String text = now.tape;
        now.tape = "";
        int fault = Texts.fault(text, use == 0 ? "ntf" : "anm");
        if (fault >= 0) {
            return -10 - fault;
        }
        now.texts[use] = text;
        return 1;
    }

    int law(int use, int a, int b, int c) {
        if (!in(use, 0, 1)) {
            return err(1);
        }
        int v = Texts.gives(now.texts[use], use == 0 ? "ntf" : "anm", a, b, c);
        return use == 0 ? v : held(v);
    }

    int needed(int owner, int i) {
        if (!in(owner, 0, 3) || !isField(i)) {
            return err(1);
        }
        int n = now.needed(owner, i);
        return n < 0 ? err(2) : n;
    }

    int coach(int i) {
        if (!isField(i)) {
            return err(1);
        }
        int sum = (i + 1) * now.pace;
        for (Plot p : now.road.subList(0, i + 1)) {
            sum += p.ditch;
        }
        return sum;
    }

    int gain(int owner, int what) {
        if (!in(owner, 0, 3) || !in(what, 0, 1)) {
            return err(1);
        }
        int[] best = {0, 0};
        go(owner, 0, 0, 0, 0, 0, best);
        return best[what];
    }

    private void go(int owner, int i, int minute, int coach, int acres, int set, int[] best) {
        if (i == now.road.size()) {
            if (acres > best[0] || acres == best[0] && set < best[1]) {
                best[0] = acres;
                best[1] = set;
            }
            return;
        }
        int there = i == 0 ? 0 : minute + 1;
        int coachThere = coach + now.pace + now.road.get(i).ditch;
        go(owner, i + 1, there, coachThere, acres, set, best);
        int n = now.needed(owner, i);
        if (n >= 0 && there + n <= coachThere) {
            go(owner, i + 1, there + n, coachThere, acres + now.road.get(i).acres, set + (1 << i), best);
        }
    }

    int turns(int owner, int other, int n) {
        if (!in(owner, 0, 3) || !in(other, 0, 3) || owner == other || !in(n, 0, 4)) {
            return err(1);
        }
        return now.road.isEmpty() ? err(3) : now.turns(owner, other, 0, n);
    }

    int one(int sheet, int what) {
        if (!in(sheet, 0, 3) || !in(what, 0, 1)) {
            return err(1);
        }
        if (sheets[sheet] == null) {
            return err(2);
        }
        int many = 0;
        int least = Integer.MAX_VALUE;
        for (int i = 0; i < now.road.size(); i++) {
            for (int o = 0; o < 4; o++) {
                World w = now.copy();
                w.road.get(i).hear(o);
                if (w.saysAll(sheets[sheet])) {
                    many++;
                    least = Math.min(least, 10 * o + i);
                }
            }
        }
        return many == 0 ? err(2) : what == 0 ? least : many;
    }

    int fears(int sheet, int what) {
        if (!in(sheet, 0, 3) || !in(what, 0, 1)) {
            return err(1);
        }
        if (sheets[sheet] == null) {
            return err(2);
        }
        int many = 0;
        int least = Integer.MAX_VALUE;
        for (int row = 123; row <= 3210; row++) {
            int[] fear = {row / 1000, row / 100 % 10, row / 10 % 10, row % 10};
            int[] sorted = fear.clone();
            Arrays.sort(sorted);
            World w = now.copy();
            w.fear = fear;
            if (Arrays.equals(sorted, new int[] {0, 1, 2, 3}) && w.saysAll(sheets[sheet])) {
                many++;
                least = Math.min(least, row);
            }
        }
        return many == 0 ? err(2) : what == 0 ? least : many;
    }

    int silence(int i, int owner) {
        return !isField(i) || !in(owner, 0, 3) ? err(1) : now.acres(owner, -1) - now.acres(owner, i);
    }

    long odds(int owner, int part) {
        if (!in(owner, 0, 3) || !in(part, 0, 1)) {
            return err(1);
        }
        java.math.BigInteger above = java.math.BigInteger.ONE;
        java.math.BigInteger below = java.math.BigInteger.ONE;
        for (int i = 0; i < now.road.size(); i++) {
            if (now.owner(i, -1) == owner) {
                above = above.multiply(java.math.BigInteger.valueOf(16 - now.road.get(i).m));
                below = below.multiply(java.math.BigInteger.valueOf(16));
            }
        }
        java.math.BigInteger both = above.gcd(below);
        return (part == 0 ? above : below).divide(both).longValueExact();
    }

    int seed(int v) {
        int was = now.z;
        now.z = v;
        return was;
    }

    int voice(int i, int act, int x) {
        if (!isField(i) || !in(act, 0, 3)) {
            return err(1);
        }
        trace.clear();
        Mower mower = mower(now.road.get(i), i);
        int v = switch (act) {
            case 0 -> mower.hears(x);
            case 1 -> mower.says(x);
            case 2 -> mower.fears(x);
            default -> mower.tells(x);
        };
        if (trace.size() > 40) {
            trace = new ArrayList<>(trace.subList(0, 40));
        }
        return v;
    }

    int trace(int i) {
        return in(i, 0, trace.size() - 1) ? trace.get(i) : err(2);
    }

    int sheet(int sheet, int width, int n) {
        if (!in(sheet, 0, 3) || !List.of(0, 8, 16, 32).contains(width)) {
            return err(1);
        }
        if (width != 0 && n < 0) {
            return err(3);
        }
        if (width != 0 && n > 40) {
            return err(1);
        }
        sheets[sheet] = width == 0 ? null : new int[n];
        bits[sheet] = width;
        return 1;
    }

    int put(int sheet, int i, int v) {
        if (!in(sheet, 0, 3)) {
            return err(1);
        }
        if (sheets[sheet] == null) {
            return err(2);
        }
        if (!in(i, 0, sheets[sheet].length - 1)) {
            return err(1);
        }
        int shift = 32 - bits[sheet];
        sheets[sheet][i] = v << shift >> shift;
        return 1;
    }

    int move(int sheet, int i, int other, int j, int n) {
        if (!in(sheet, 0, 3) || !in(other, 0, 3)) {
            return err(1);
        }
        if (sheets[sheet] == null || sheets[other] == null) {
            return err(2);
        }
        if (bits[sheet] != bits[other]) {
            return err(5);
        }
        boolean stand = n >= 0 && i >= 0 && j >= 0 && (long) i + n <= sheets[sheet].length
                && (long) j + n <= sheets[other].length;
        if (!stand) {
            return err(1);
        }
        int[] were = Arrays.copyOfRange(sheets[sheet], i, i + n);
        for (int k = 0; k < n; k++) {
            sheets[other][j + k] = were[k];
        }
        return n;
    }

    int acres(int sheet) {
        if (!in(sheet, 0, 3)) {
            return err(1);
        }
        if (sheets[sheet] == null) {
            return err(2);
        }
        int k = 0;
        for (int v : sheets[sheet]) {
            if (v < 1 || v > 99 || k == now.road.size()) {
                break;
            }
            now.road.get(k).acres = v;
            k++;
        }
        return k;
    }

    int judge(int sheet) {
        if (!in(sheet, 0, 3)) {
            return err(1);
        }
        if (sheets[sheet] == null) {
            return err(2);
        }
        int[] owners = new int[now.road.size()];
        for (int i = 0; i < owners.length; i++) {
            owners[i] = now.owner(i, -1);
        }
        return Arrays.mismatch(owners, sheets[sheet]);
    }

    int image() {
        image = now.copy();
        return ++images;
    }

    int restore() {
        if (image == null) {
            return err(2);
        }
        now = image.copy();
        return now.minute;
    }

    int tell(int v) {
        if (now.waiting.size() == 20) {
            return err(4);
        }
        now.waiting.add(v);
        return now.waiting.size();
    }

    int check() {
        List<Integer> row = now.waiting;
        now.waiting = new ArrayList<>();
        for (int i = 0; i < row.size(); i++) {
            if (row.get(i) != (i < now.road.size() ? now.says(i, -1).intValue() : -1)) {
                return i + 1;
            }
        }
        return 0;
    }

    int count(int what) {
        if (!in(what, 0, 9)) {
            return err(1);
        }
        int nobodys = 0;
        int told = 0;
        for (int i = 0; i < now.road.size(); i++) {
            nobodys += now.owner(i, -1) < 0 ? 1 : 0;
            told += now.road.get(i).sum();
        }
        return new int[] {now.road.size(), now.minute, now.lost, nobodys, now.pace, told, now.tape.length(),
            now.waiting.size(), trace.size(), now.z}[what];
    }

    int told(int k) {
        return in(k, 1, 5) ? errors[k] : err(1);
    }

    private Mower mower(Plot p, int n) {
        Mower mower = switch (p.kind) {
            case 0 -> new Mower();
            case 1 -> new Deaf();
            case 2 -> new Fearful();
            case 3 -> new Loyal();
            case 4 -> new Silent();
            case 5 -> new Parrot();
            default -> new Echo();
        };
        mower.m = p.m;
        mower.n = n;
        mower.trace = trace;
        return mower;
    }

    static class Mower {
        int m;
        int n;
        List<Integer> trace;

        int hears(int x) {
            trace.add(10);
            return x + n;
        }

        int says(int x) {
            trace.add(11);
            return hears(x) * 2;
        }

        int fears(int x) {
            trace.add(12);
            return x - m;
        }

        int tells(int x) {
            trace.add(13);
            return says(x) ^ fears(x);
        }
    }

    static class Deaf extends Mower {
        @Override int hears(int x) {
            trace.add(20);
            return super.hears(x) * 3;
        }
    }

    static class Fearful extends Mower {
        @Override int fears(int x) {
            trace.add(30);
            return -super.fears(x);
        }
    }

    static class Loyal extends Mower {
        @Override int says(int x) {
            trace.add(40);
            return super.says(x) - fears(1);
        }
    }

    static final class Silent extends Deaf {
        @Override int tells(int x) {
            trace.add(50);
            return super.tells(x) - hears(2);
        }
    }

    static final class Parrot extends Fearful {
        @Override int fears(int x) {
            trace.add(60);
            return super.fears(x) ^ n;
        }

        @Override int tells(int x) {
            trace.add(61);
            return says(x) - super.tells(x);
        }
    }

    static final class Echo extends Loyal {
        @Override int says(int x) {
            trace.add(70);
            return super.says(x + 1);
        }
    }

    /** Texts by splitting at signs that stand outside of brackets. */
    static final class Texts {
        private static final String[] SIGNS = {"|", "&", "<=>", "+-", "*/%"};

        private Texts() {
        }

        /** The pieces between signs of a level, each sign ahead of its piece (a blank ahead of the first). */
        private static List<String> pieces(String s, int level) {
            List<String> pieces = new ArrayList<>();
            int deep = 0;
            int from = 0;
            char sign = ' ';
            for (int i = 0; i < s.length(); i++) {
                char c = s.charAt(i);
                deep += c == '(' ? 1 : c == ')' ? -1 : 0;
                if (deep == 0 && SIGNS[level].indexOf(c) >= 0) {
                    pieces.add(sign + s.substring(from, i));
                    sign = c;
                    from = i + 1;
                }
            }
            pieces.add(sign + s.substring(from));
            return pieces;
        }

        static boolean isText(String s, String names, int level, int open) {
            if (open > 5) {
                return false;
            }
            if (level == 5) {
                if (s.matches("[0-9]{1,4}") || s.length() == 1 && names.contains(s)) {
                    return true;
                }
                if (s.startsWith("!")) {
                    return isText(s.substring(1), names, 5, open + 1);
                }
                return s.length() > 2 && s.startsWith("(") && s.endsWith(")")
                        && isText(s.substring(1, s.length() - 1), names, 0, open + 1);
            }
            List<String> pieces = pieces(s, level);
            if (level == 2 && pieces.size() > 2) {
                return false;
            }
            for (String piece : pieces) {
                if (!isText(piece.substring(1), names, level + 1, open)) {
                    return false;
                }
            }
            return true;
        }

        static int gives(String s, String names, int... values) {
            return gives(s, names, values, 0);
        }

        private static int gives(String s, String names, int[] values, int level) {
            if (level == 5) {
                char c = s.charAt(0);
                if (c == '!') {
                    return gives(s.substring(1), names, values, 5) == 0 ? 1 : 0;
                }
                if (c == '(') {
                    return gives(s.substring(1, s.length() - 1), names, values, 0);
                }
                return names.indexOf(c) >= 0 ? values[names.indexOf(c)] : Integer.parseInt(s);
            }
            List<String> pieces = pieces(s, level);
            int v = gives(pieces.get(0).substring(1), names, values, level + 1);
            for (String piece : pieces.subList(1, pieces.size())) {
                v = join(piece.charAt(0), v, gives(piece.substring(1), names, values, level + 1));
            }
            return v;
        }

        private static int join(char sign, int a, int b) {
            return switch (sign) {
                case '|' -> a != 0 | b != 0 ? 1 : 0;
                case '&' -> a != 0 & b != 0 ? 1 : 0;
                case '<' -> a < b ? 1 : 0;
                case '=' -> a == b ? 1 : 0;
                case '>' -> a > b ? 1 : 0;
                case '+' -> a + b;
                case '-' -> a - b;
                case '*' -> a * b;
                case '/' -> b == 0 ? 0 : a / b;
                default -> b == 0 ? 0 : a % b;
            };
        }

        /** Whether some text begins so: a number and some closing brackets complete whatever can be completed. */
        private static boolean goesOn(String s, String names) {
            for (int closed = 0; closed <= 5; closed++) {
                String end = ")".repeat(closed);
                if (isText(s + end, names, 0, 0) || isText(s + "0" + end, names, 0, 0)) {
                    return true;
                }
            }
            return false;
        }

        static int fault(String s, String names) {
            for (int i = 0; i < s.length(); i++) {
                if (!goesOn(s.substring(0, i + 1), names)) {
                    return i;
                }
            }
            return isText(s, names, 0, 0) ? -1 : s.length();
        }
    }
}
