import java.util.Random;

/** All promises: long runs of calls, each answer as that of the model; the seeds are fixed. */
final class ModelTest {
    private static final int RUNS = 600;
    private static final int CALLS = 512;
    private static final int MOST_AT_ONCE = 16;
    private static final String SIGNS = "ntfam0123456789|&<=>+-*/%!()";

    private final Random random;
    private final FieldsTold x = new FieldsTold();
    private final Model y = new Model();
    private final boolean isWild;
    private String call = "";
    private int made = 0;

    private ModelTest(int seed) {
        random = new Random(seed);
        isWild = seed % 4 == 0;
    }

    public static void main(String[] args) {
        for (int seed = 0; seed < RUNS; seed++) {
            new ModelTest(seed).run(seed);
        }
        for (int seed = 0; seed < RUNS; seed++) {
            texts(new Random(seed));
        }
        Checks.end("ModelTest");
    }

    private void run(int seed) {
        for (int i = 0; made + MOST_AT_ONCE <= CALLS; i++) {
            int method = random.nextInt(52);
            if (method < 13) {
                onFields(method, seed, i);
            } else if (method < 26) {
                onThoughts(method - 13, seed, i);
            } else if (method < 40) {
                onSheets(method - 26, seed, i);
            } else {
                onTellings(method - 40, seed, i);
            }
        }
    }

    private void same(int seed, int i, String name, long got, long due) {
        made++;
        Checks.same("run " + seed + ", call " + i + ", " + name + " " + call, got, due);
    }

    private int pick(int least, int most) {
        int among = isWild ? 6 : 40;
        int v = least + random.nextInt(most - least + 1);
        if (random.nextInt(among) == 0) {
            int[] wild = {least - 1, most + 1, Integer.MIN_VALUE, Integer.MAX_VALUE, random.nextInt()};
            v = wild[random.nextInt(wild.length)];
        }
        call += " " + v;
        return v;
    }

    private int field() {
        return pick(0, Math.max(0, y.now.road.size() - 1));
    }

    private int owner() {
        return pick(0, 3);
    }

    private int km() {
        return pick(0, 69);
    }

    private void onFields(int method, int seed, int i) {
        call = "";
        int a;
        int b;
        int c;
        switch (method) {
            case 0: a = km(); b = pick(1, 99); same(seed, i, "field", x.field(a, b), y.field(a, b)); break;
            case 1: a = field(); b = pick(0, 9); same(seed, i, "ofField", x.ofField(a, b), y.ofField(a, b)); break;
            case 2: a = field(); b = owner(); same(seed, i, "tellings", x.tellings(a, b), y.tellings(a, b)); break;
            case 3: a = owner(); b = pick(0, 3); same(seed, i, "ofOwner", x.ofOwner(a, b), y.ofOwner(a, b)); break;
            case 4: a = field(); b = km(); same(seed, i, "become", x.become(a, b), y.become(a, b)); break;
            case 5: a = field(); b = pick(0, 6); same(seed, i, "as", x.as(a, b), y.as(a, b)); break;
            case 6: a = field(); b = pick(0, 1); c = pick(b == 0 ? 1 : 0, b == 0 ? 99 : 9);
                same(seed, i, "set", x.set(a, b, c), y.set(a, b, c)); break;
            case 7: a = owner(); b = pick(0, 9); same(seed, i, "fear", x.fear(a, b), y.fear(a, b)); break;
            case 8: a = pick(1, 20); same(seed, i, "pace", x.pace(a), y.pace(a)); break;
            case 9: a = field();
                if (random.nextInt(3) == 0) {
                    same(seed, i, "forgets", x.forgets(a), y.forgets(a));
                }
                break;
            case 10: a = pick(0, 9); same(seed, i, "count", x.count(a), y.count(a)); break;
            case 11: a = pick(1, 5); same(seed, i, "told", x.told(a), y.told(a)); break;
            default: a = random.nextInt(); same(seed, i, "seed", x.seed(a), y.seed(a)); break;
        }
    }

    private void onThoughts(int method, int seed, int i) {
        call = "";
        int a;
        int b;
        int c;
        switch (method) {
            case 0:
            case 1: a = owner(); b = field(); same(seed, i, "needed", x.needed(a, b), y.needed(a, b)); break;
            case 2: a = field(); same(seed, i, "coach", x.coach(a), y.coach(a)); break;
            case 3: a = owner(); b = pick(0, 1); same(seed, i, "gain", x.gain(a, b), y.gain(a, b)); break;
            case 4: a = owner(); b = owner(); c = pick(0, random.nextInt(5));
                if (c < 4 || i % 8 == 0) {
                    same(seed, i, "turns", x.turns(a, b, c), y.turns(a, b, c));
                }
                break;
            case 5: fillBySaid(seed, i); a = pick(0, 3); b = pick(0, 1);
                same(seed, i, "one", x.one(a, b), y.one(a, b)); break;
            case 6: fillBySaid(seed, i); a = pick(0, 3); b = pick(0, 1);
                same(seed, i, "fears", x.fears(a, b), y.fears(a, b)); break;
            case 7: a = field(); b = owner(); same(seed, i, "silence", x.silence(a, b), y.silence(a, b)); break;
            case 8: a = owner(); b = pick(0, 1); same(seed, i, "odds", x.odds(a, b), y.odds(a, b)); break;
            case 9:
            case 10: a = field(); b = pick(0, 3); c = random.nextBoolean() ? random.nextInt(50) : random.nextInt();
                call += " " + c;
                same(seed, i, "voice", x.voice(a, b, c), y.voice(a, b, c)); break;
            case 11: a = pick(0, Math.max(0, y.trace.size() - 1)); same(seed, i, "trace", x.trace(a), y.trace(a)); break;
            default: a = pick(0, 1); b = random.nextInt(20) - 3; c = random.nextInt(20) - 3; int d = random.nextInt(20) - 3;
                call += " " + b + " " + c + " " + d;
                same(seed, i, "law", x.law(a, b, c, d), y.law(a, b, c, d)); break;
        }
    }

    // A sheet near what the mowers say, as they are or as one telling or other fears would have it.
    private void fillBySaid(int seed, int i) {
        int sheet = random.nextInt(4);
        int n = y.now.road.size();
        int size = random.nextInt(8) == 0 ? n + 1 : n;
        int bits = 8 << random.nextInt(3);
        Model.World w = y.now.copy();
        if (n > 0 && random.nextBoolean()) {
            w.road.get(random.nextInt(n)).hear(random.nextInt(4));
        }
        if (random.nextInt(4) == 0) {
            w.fear = new int[] {3, 2, 1, 0};
        }
        same(seed, i, "sheet", x.sheet(sheet, bits, size), y.sheet(sheet, bits, size));
        for (int k = 0; k < n; k++) {
            int v = random.nextInt(40) == 0 ? random.nextInt(5) - 1 : w.says(k, -1);
            same(seed, i, "put", x.put(sheet, k, v), y.put(sheet, k, v));
        }
    }

    private void onSheets(int method, int seed, int i) {
        call = "";
        int a;
        int b;
        int c;
        switch (method) {
            case 0: a = pick(0, 3); b = random.nextInt(12) == 0 ? pick(0, 64) : new int[] {0, 8, 16, 32}[random.nextInt(4)];
                c = pick(0, random.nextBoolean() ? 12 : 40);
                same(seed, i, "sheet", x.sheet(a, b, c), y.sheet(a, b, c)); break;
            case 1:
            case 2: a = pick(0, 3); b = pick(0, 11); c = random.nextInt(3) == 0 ? random.nextInt() : random.nextInt(104) - 2;
                call += " " + c;
                same(seed, i, "put", x.put(a, b, c), y.put(a, b, c)); break;
            case 3:
            case 4: a = pick(0, 3); b = pick(0, 6); c = random.nextBoolean() ? a : pick(0, 3); int d = pick(0, 6);
                int e = pick(0, 8);
                same(seed, i, "move", x.move(a, b, c, d, e), y.move(a, b, c, d, e)); break;
            case 5: a = pick(0, 3); same(seed, i, "acres", x.acres(a), y.acres(a)); break;
            case 6: a = pick(0, 3); same(seed, i, "judge", x.judge(a), y.judge(a)); break;
            case 7: fillByOwners(seed, i); break;
            case 8: same(seed, i, "image", x.image(), y.image()); break;
            case 9:
                if (random.nextInt(4) == 0) {
                    same(seed, i, "restore", x.restore(), y.restore());
                }
                break;
            case 10:
            case 11: int k = y.now.waiting.size();
                a = random.nextInt(8) == 0 ? random.nextInt() : k < y.now.road.size() ? y.now.says(k, -1) : -1;
                same(seed, i, "tell", x.tell(a), y.tell(a)); break;
            case 12:
                if (random.nextInt(3) == 0) {
                    same(seed, i, "check", x.check(), y.check());
                }
                break;
            default: feedSome(seed, i); break;
        }
    }

    private void fillByOwners(int seed, int i) {
        int sheet = random.nextInt(4);
        int n = y.now.road.size();
        int size = n + (random.nextInt(4) == 0 ? 1 : 0) - (n > 0 && random.nextInt(4) == 0 ? 1 : 0);
        int bits = 8 << random.nextInt(3);
        same(seed, i, "sheet", x.sheet(sheet, bits, size), y.sheet(sheet, bits, size));
        for (int k = 0; k < Math.min(n, size); k++) {
            int v = random.nextInt(20) == 0 ? random.nextInt(5) - 1 : y.now.owner(k, -1);
            same(seed, i, "put", x.put(sheet, k, v), y.put(sheet, k, v));
        }
        same(seed, i, "judge", x.judge(sheet), y.judge(sheet));
    }

    private void onTellings(int method, int seed, int i) {
        call = "";
        int a;
        int b;
        if (method < 8) {
            a = owner();
            b = field();
            for (int n = random.nextInt(4); n >= 0; n--) {
                same(seed, i, "tells", x.tells(a, b), y.tells(a, b));
            }
        } else if (method < 9) {
            a = random.nextInt(6) == 0 ? pick(1, 100) : pick(1, 12);
            same(seed, i, "loose", x.loose(a), y.loose(a));
        } else {
            feedSome(seed, i);
        }
    }

    private void feedSome(int seed, int i) {
        if (random.nextInt(10) == 0) {
            long word = random.nextLong();
            int n = pick(1, 8);
            same(seed, i, "feed", x.feed(word, n), y.feed(word, n));
            return;
        }
        if (random.nextInt(4) == 0) {
            int use = pick(0, 1);
            same(seed, i, "text of " + y.now.tape, x.text(use), y.text(use));
            return;
        }
        int use = random.nextInt(2);
        String whole = text(random, use == 0 ? "ntf" : "anm", 0, 0);
        String text = whole.substring(0, Math.min(64, whole.length()));
        for (int from = 0; from < text.length(); from += 8) {
            int n = Math.min(8, text.length() - from);
            long word = random.nextLong() & (n == 8 ? 0 : -1L << 8 * n);
            for (int k = 0; k < n; k++) {
                word |= (long) text.charAt(from + k) << 8 * k;
            }
            same(seed, i, "feed", x.feed(word, n), y.feed(word, n));
        }
        same(seed, i, "text of " + y.now.tape, x.text(use), y.text(use));
    }

    /** A random text of a level. */
    private static String text(Random random, String names, int level, int open) {
        if (level == 5) {
            int way = random.nextInt(8);
            if (open < 5 && way == 0) {
                return "!" + text(random, names, 5, open + 1);
            }
            if (open < 5 && way == 1) {
                return "(" + text(random, names, 0, open + 1) + ")";
            }
            return way < 6 ? "" + names.charAt(random.nextInt(3)) : "" + random.nextInt(way == 6 ? 5 : 10000);
        }
        String signs = new String[] {"|", "&", "<=>", "+-", "*/%"}[level];
        StringBuilder text = new StringBuilder(text(random, names, level + 1, open));
        int most = level == 2 ? 1 : 3;
        for (int n = 0; n < most && random.nextInt(4) == 0; n++) {
            text.append(signs.charAt(random.nextInt(signs.length()))).append(text(random, names, level + 1, open));
        }
        return text.toString();
    }

    // Texts with a sign put in, taken away, or put in place of another.
    private static void texts(Random random) {
        FieldsTold x = new FieldsTold();
        for (int i = 0; i < 50; i++) {
            int use = random.nextInt(2);
            String names = use == 0 ? "ntf" : "anm";
            StringBuilder text = new StringBuilder(text(random, names, 0, 0));
            for (int n = random.nextInt(3); n > 0; n--) {
                int at = random.nextInt(text.length() + 1);
                char sign = SIGNS.charAt(random.nextInt(SIGNS.length()));
                int way = random.nextInt(3);
                if (way == 0 || at == text.length()) {
                    text.insert(at, sign);
                } else if (way == 1) {
                    text.setCharAt(at, sign);
                } else {
                    text.deleteCharAt(at);
                }
            }
            text.setLength(Math.min(50, text.length()));
            String told = text.toString();
            int fault = Model.Texts.fault(told, names);
            Checks.same("text " + told, Checks.read(x, use, told), fault < 0 ? 1 : -10 - fault);
            if (fault < 0) {
                int a = random.nextInt(20) - 5;
                int b = random.nextInt(20) - 5;
                int c = random.nextInt();
                int due = Model.Texts.gives(told, names, a, b, c);
                Checks.same("law of " + told, x.law(use, a, b, c), use == 0 ? due : Model.held(due));
            }
        }
    }
}
