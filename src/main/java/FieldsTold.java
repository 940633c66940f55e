import java.util.Arrays;

/** Fields along a road, mowers that are told whose they are, and a law of what everybody says. */
public final class FieldsTold {
    private static final int LOW = -1000000000;
    private static final int BEYOND = 1;
    private static final int NONE = 2;
    private static final int STATE = 3;
    private static final int FULL = 4;
    private static final int UNLIKE = 5;

    private static final int NOBODY = -1;
    private static final int OWNERS = 4;
    private static final int USES = 2;
    private static final int SHEETS = 4;
    private static final int MOST_FIELDS = 10;
    private static final int MOST_ACRES = 99;
    private static final int MOST_DITCH = 9;
    private static final int MOST_FEAR = 9;
    private static final int MOST_PACE = 20;
    private static final int MOST_TOLD = 9;
    private static final int MOST_COUNTED = 9999;
    private static final int MOST_RENT = 999;
    private static final int MOST_BYTES = 50;
    private static final int MOST_WAITING = 20;
    private static final int MOST_NUMBERS = 40;
    private static final int MOST_LOOSE = 100;
    private static final int MOST_TURNS = 4;
    private static final int FIELDS_IN_TURNS = 5;

    private static final int KINDS = 7;
    private static final int DEAF = 1;
    private static final int FEARFUL = 2;
    private static final int LOYAL = 3;
    private static final int SILENT = 4;
    private static final int PARROT = 5;
    private static final int ECHO = 6;
    private static final int[] KIND_ABOVE = {-1, 0, 0, 0, 1, 2, 3};

    private final Land land;
    private final Land kept;
    private final Reader reader;
    private final Thought thought;
    private final Voice voices;
    private final Sheet[] sheets;
    private final int[] errors;
    private int images;

    public FieldsTold() {
        land = new Land();
        kept = new Land();
        reader = new Reader(land.tape);
        thought = new Thought(land);
        voices = new Voice();
        sheets = new Sheet[SHEETS];
        for (int i = 0; i < SHEETS; i++) {
            sheets[i] = new Sheet();
        }
        errors = new int[UNLIKE + 1];
        images = 0;
    }

    // ---- fields

    public int field(int km, int acres) {
        if (!isKm(km) || !isWithin(acres, 1, MOST_ACRES)) {
            return error(BEYOND);
        }
        if (land.fields >= MOST_FIELDS) {
            return error(FULL);
        }
        Field added = land.road[land.fields];
        added.begin(km, acres);
        land.fields++;
        return added.number;
    }

    public int ofField(int field, int what) {
        if (!land.has(field) || !isWithin(what, 0, 9)) {
            return error(BEYOND);
        }
        Field of = land.road[field];
        switch (what) {
            case 0: return of.kind;
            case 1: return of.m;
            case 2: return of.acres;
            case 3: return of.ditch;
            case 4: return of.first;
            case 5: return of.last;
            case 6: return land.says(field, NOBODY);
            case 7: return land.ownerOf(field, NOBODY);
            case 8: return land.rentOf(field);
            default: return of.toldByAll();
        }
    }

    public int tellings(int field, int owner) {
        if (!land.has(field) || !isOwner(owner)) {
            return error(BEYOND);
        }
        return land.road[field].told[owner];
    }

    public int ofOwner(int owner, int what) {
        if (!isOwner(owner) || !isWithin(what, 0, 3)) {
            return error(BEYOND);
        }
        switch (what) {
            case 0: return land.fear[owner];
            case 1: return land.fieldsOf(owner);
            case 2: return land.acresOf(owner, NOBODY);
            default: return land.rentsOf(owner);
        }
    }

    public int become(int field, int km) {
        if (!land.has(field) || !isKm(km)) {
            return error(BEYOND);
        }
        Field of = land.road[field];
        int was = of.kind;
        of.kind = km / 10;
        of.m = km % 10;
        return was;
    }

    public int as(int field, int kind) {
        if (!land.has(field) || !isWithin(kind, 0, KINDS - 1)) {
            return error(BEYOND);
        }
        Field of = land.road[field];
        if (!isKindUnder(of.kind, kind)) {
            return error(UNLIKE);
        }
        return of.m;
    }

    public int set(int field, int what, int v) {
        boolean fits = what == 0 ? isWithin(v, 1, MOST_ACRES) : what == 1 && isWithin(v, 0, MOST_DITCH);
        if (!land.has(field) || !fits) {
            return error(BEYOND);
        }
        Field of = land.road[field];
        int was = what == 0 ? of.acres : of.ditch;
        if (what == 0) {
            of.acres = v;
        } else {
            of.ditch = v;
        }
        return was;
    }

    public int fear(int owner, int v) {
        if (!isOwner(owner) || !isWithin(v, 0, MOST_FEAR)) {
            return error(BEYOND);
        }
        int was = land.fear[owner];
        land.fear[owner] = v;
        return was;
    }

    public int pace(int v) {
        if (!isWithin(v, 1, MOST_PACE)) {
            return error(BEYOND);
        }
        int was = land.pace;
        land.pace = v;
        return was;
    }

    public int forgets(int field) {
        if (!land.has(field)) {
            return error(BEYOND);
        }
        Field of = land.road[field];
        int was = of.toldByAll();
        of.loseAllTold();
        return was;
    }

    // ---- tellings

    public int tells(int owner, int field) {
        if (!isOwner(owner) || !land.has(field)) {
            return error(BEYOND);
        }
        if (land.refuses(owner, field)) {
            return error(STATE);
        }
        land.hearOut(owner, field);
        return land.ownerOf(field, NOBODY);
    }

    public int loose(int n) {
        if (!isWithin(n, 1, MOST_LOOSE)) {
            return error(BEYOND);
        }
        if (land.fields == 0) {
            return error(STATE);
        }
        int done = 0;
        for (int i = 0; i < n; i++) {
            int owner = land.draw() % OWNERS;
            int field = land.draw() % land.fields;
            if (!land.refuses(owner, field)) {
                land.hearOut(owner, field);
                done++;
            }
        }
        return done;
    }

    // ---- texts

    public int feed(long word, int n) {
        if (!isWithin(n, 1, 8)) {
            return error(BEYOND);
        }
        if (land.tapeBytes > MOST_BYTES - n) {
            return error(FULL);
        }
        for (int i = 0; i < n; i++) {
            land.tape[land.tapeBytes] = (int) (word >>> (8 * i)) & 255;
            land.tapeBytes++;
        }
        return land.tapeBytes;
    }

    public int text(int use) {
        if (!isWithin(use, 0, USES - 1)) {
            return error(BEYOND);
        }
        Law law = use == 0 ? land.title : land.rent;
        int fault = reader.faultOf(land.tapeBytes, law.names);
        land.tapeBytes = 0;
        if (fault >= 0) {
            return -10 - fault;
        }
        law.takeOver(reader.code, reader.signs);
        return 1;
    }

    public int law(int use, int a, int b, int c) {
        if (!isWithin(use, 0, USES - 1)) {
            return error(BEYOND);
        }
        return use == 0 ? land.title.work(a, b, c) : heldRent(land.rent.work(a, b, c));
    }

    // ---- what would be

    public int needed(int owner, int field) {
        if (!isOwner(owner) || !land.has(field)) {
            return error(BEYOND);
        }
        int least = thought.leastTellings(owner, field);
        return least < 0 ? error(NONE) : least;
    }

    public int coach(int field) {
        if (!land.has(field)) {
            return error(BEYOND);
        }
        return land.coachAt(field);
    }

    public int gain(int owner, int what) {
        if (!isOwner(owner) || !isWithin(what, 0, 1)) {
            return error(BEYOND);
        }
        int set = thought.bestSet(owner);
        return what == 0 ? thought.acresBy(set) : set;
    }

    public int turns(int owner, int other, int n) {
        if (!isOwner(owner) || !isOwner(other) || owner == other || !isWithin(n, 0, MOST_TURNS)) {
            return error(BEYOND);
        }
        if (land.fields == 0) {
            return error(STATE);
        }
        return thought.leadByTurns(owner, other, n);
    }

    public int one(int sheet, int what) {
        if (!isSheet(sheet) || !isWithin(what, 0, 1)) {
            return error(BEYOND);
        }
        if (sheets[sheet].bits == 0) {
            return error(NONE);
        }
        thought.seekTelling(sheets[sheet]);
        if (thought.found == 0) {
            return error(NONE);
        }
        return what == 0 ? thought.firstFound : thought.found;
    }

    public int fears(int sheet, int what) {
        if (!isSheet(sheet) || !isWithin(what, 0, 1)) {
            return error(BEYOND);
        }
        if (sheets[sheet].bits == 0) {
            return error(NONE);
        }
        thought.seekFears(sheets[sheet]);
        if (thought.found == 0) {
            return error(NONE);
        }
        return what == 0 ? thought.firstFound : thought.found;
    }

    public int silence(int field, int owner) {
        if (!land.has(field) || !isOwner(owner)) {
            return error(BEYOND);
        }
        return land.acresOf(owner, NOBODY) - land.acresOf(owner, field);
    }

    public long odds(int owner, int part) {
        if (!isOwner(owner) || !isWithin(part, 0, 1)) {
            return error(BEYOND);
        }
        return thought.oddsOf(owner, part);
    }

    // ---- draws, voices, sheets, images, what is told

    public int seed(int v) {
        int was = land.z;
        land.z = v;
        return was;
    }

    public int voice(int field, int act, int x) {
        if (!land.has(field) || !isWithin(act, 0, 3)) {
            return error(BEYOND);
        }
        return voices.speak(land.road[field], act, x);
    }

    public int trace(int i) {
        if (!isWithin(i, 0, voices.bodies - 1)) {
            return error(NONE);
        }
        return voices.trace[i];
    }

    public int sheet(int sheet, int bits, int n) {
        boolean isWidth = bits == 0 || bits == 8 || bits == 16 || bits == 32;
        if (!isSheet(sheet) || !isWidth) {
            return error(BEYOND);
        }
        if (bits != 0 && n < 0) {
            return error(STATE);
        }
        if (bits != 0 && n > MOST_NUMBERS) {
            return error(BEYOND);
        }
        sheets[sheet].begin(bits, bits == 0 ? 0 : n);
        return 1;
    }

    public int put(int sheet, int i, int v) {
        if (!isSheet(sheet)) {
            return error(BEYOND);
        }
        Sheet of = sheets[sheet];
        if (of.bits == 0) {
            return error(NONE);
        }
        if (!isWithin(i, 0, of.size - 1)) {
            return error(BEYOND);
        }
        of.numbers[i] = of.lowestBits(v);
        return 1;
    }

    public int move(int sheet, int i, int other, int j, int n) {
        if (!isSheet(sheet) || !isSheet(other)) {
            return error(BEYOND);
        }
        Sheet from = sheets[sheet];
        Sheet to = sheets[other];
        if (from.bits == 0 || to.bits == 0) {
            return error(NONE);
        }
        if (from.bits != to.bits) {
            return error(UNLIKE);
        }
        if (!from.holds(i, n) || !to.holds(j, n)) {
            return error(BEYOND);
        }
        System.arraycopy(from.numbers, i, to.numbers, j, n);
        return n;
    }

    public int acres(int sheet) {
        if (!isSheet(sheet)) {
            return error(BEYOND);
        }
        Sheet of = sheets[sheet];
        if (of.bits == 0) {
            return error(NONE);
        }
        int most = Math.min(of.size, land.fields);
        int done = 0;
        while (done < most && isWithin(of.numbers[done], 1, MOST_ACRES)) {
            land.road[done].acres = of.numbers[done];
            done++;
        }
        return done;
    }

    public int judge(int sheet) {
        if (!isSheet(sheet)) {
            return error(BEYOND);
        }
        Sheet of = sheets[sheet];
        if (of.bits == 0) {
            return error(NONE);
        }
        int most = Math.max(of.size, land.fields);
        for (int i = 0; i < most; i++) {
            boolean isInBoth = i < of.size && land.has(i);
            if (!isInBoth || of.numbers[i] != land.ownerOf(i, NOBODY)) {
                return i;
            }
        }
        return -1;
    }

    public int image() {
        kept.copyFrom(land);
        images++;
        return images;
    }

    public int restore() {
        if (images == 0) {
            return error(NONE);
        }
        land.copyFrom(kept);
        return land.minute;
    }

    public int tell(int v) {
        if (land.waits >= MOST_WAITING) {
            return error(FULL);
        }
        land.waiting[land.waits] = v;
        land.waits++;
        return land.waits;
    }

    public int check() {
        int most = land.waits;
        land.waits = 0;
        for (int i = 0; i < most; i++) {
            int said = land.has(i) ? land.says(i, NOBODY) : NOBODY;
            if (land.waiting[i] != said) {
                return 1 + i;
            }
        }
        return 0;
    }

    public int count(int what) {
        switch (what) {
            case 0: return land.fields;
            case 1: return land.minute;
            case 2: return land.lost;
            case 3: return land.fieldsOf(NOBODY);
            case 4: return land.pace;
            case 5: return land.toldInAll();
            case 6: return land.tapeBytes;
            case 7: return land.waits;
            case 8: return voices.bodies;
            case 9: return land.z;
            default: return error(BEYOND);
        }
    }

    public int told(int k) {
        if (!isWithin(k, BEYOND, UNLIKE)) {
            return error(BEYOND);
        }
        return errors[k];
    }

    private int error(int k) {
        if (isWithin(k, BEYOND, UNLIKE)) {
            errors[k]++;
        }
        return LOW - k;
    }

    private static boolean isWithin(int v, int least, int most) {
        return v >= least && v <= most;
    }

    private static boolean isOwner(int owner) {
        return isWithin(owner, 0, OWNERS - 1);
    }

    private static boolean isSheet(int sheet) {
        return isWithin(sheet, 0, SHEETS - 1);
    }

    private static boolean isKm(int km) {
        return isWithin(km, 0, 10 * KINDS - 1);
    }

    private static boolean isKindUnder(int kind, int of) {
        int at = kind;
        for (int up = 0; up < KINDS && at >= 0 && at != of; up++) {
            at = KIND_ABOVE[at];
        }
        return at == of;
    }

    private static int heldRent(int v) {
        return Math.max(0, Math.min(MOST_RENT, v));
    }

    /** A field and its mower, with what that one was told. */
    private static final class Field {
        final int number;
        final int[] told = new int[OWNERS];
        int kind = 0;
        int m = 0;
        int acres = 1;
        int ditch = 0;
        int first = NOBODY;
        int last = NOBODY;

        Field(int number) {
            this.number = number;
        }

        void begin(int km, int ofAcres) {
            kind = km / 10;
            m = km % 10;
            acres = ofAcres;
            ditch = 0;
            loseAllTold();
        }

        void copyFrom(Field other) {
            kind = other.kind;
            m = other.m;
            acres = other.acres;
            ditch = other.ditch;
            first = other.first;
            last = other.last;
            System.arraycopy(other.told, 0, told, 0, OWNERS);
        }

        void loseAllTold() {
            Arrays.fill(told, 0);
            first = NOBODY;
            last = NOBODY;
        }

        int toldByAll() {
            int sum = 0;
            for (int owner = 0; owner < OWNERS; owner++) {
                sum += told[owner];
            }
            return sum;
        }

        boolean hears() {
            switch (kind) {
                case DEAF:
                case SILENT:
                    return false;
                case ECHO:
                    return m % 2 == 1;
                default:
                    return true;
            }
        }

        // A tenth telling comes here in thought alone, and is to change nothing.
        void listen(int owner) {
            if (!isOwner(owner) || !hears() || told[owner] >= MOST_TOLD) {
                return;
            }
            told[owner]++;
            last = owner;
            if (first == NOBODY) {
                first = owner;
            }
        }

        // An echo that gets here has no field ahead to listen to.
        int saysItself(int[] fear) {
            switch (kind) {
                case DEAF: return m % OWNERS;
                case SILENT: return number < m ? m % OWNERS : NOBODY;
                case FEARFUL: return greatestBy(fear);
                case PARROT: return m % 2 == 0 ? greatestBy(fear) : greatestBy(told);
                case LOYAL:
                case ECHO:
                    return first;
                default: return last;
            }
        }

        private int greatestBy(int[] worth) {
            int best = NOBODY;
            for (int owner = 0; owner < OWNERS; owner++) {
                if (told[owner] > 0 && (best < 0 || worth[owner] > worth[best])) {
                    best = owner;
                }
            }
            return best;
        }
    }

    /** All that an image keeps. */
    private static final class Land {
        final Field[] road = new Field[MOST_FIELDS];
        final int[] fear = {0, 1, 2, 3};
        final Law title = new Law("ntf");
        final Law rent = new Law("anm");
        final int[] tape = new int[MOST_BYTES];
        final int[] waiting = new int[MOST_WAITING];
        final int[] ownersBefore = new int[MOST_FIELDS];
        int fields = 0;
        int pace = 4;
        int minute = 0;
        int lost = 0;
        int z = 1;
        int tapeBytes = 0;
        int waits = 0;

        Land() {
            for (int i = 0; i < MOST_FIELDS; i++) {
                road[i] = new Field(i);
            }
            title.beginAsTitle();
            rent.beginAsRent();
        }

        void copyFrom(Land other) {
            for (int i = 0; i < MOST_FIELDS; i++) {
                road[i].copyFrom(other.road[i]);
            }
            title.takeOver(other.title.code, other.title.signs);
            rent.takeOver(other.rent.code, other.rent.signs);
            System.arraycopy(other.fear, 0, fear, 0, OWNERS);
            System.arraycopy(other.tape, 0, tape, 0, MOST_BYTES);
            System.arraycopy(other.waiting, 0, waiting, 0, MOST_WAITING);
            fields = other.fields;
            pace = other.pace;
            minute = other.minute;
            lost = other.lost;
            z = other.z;
            tapeBytes = other.tapeBytes;
            waits = other.waits;
        }

        boolean has(int field) {
            return isWithin(field, 0, fields - 1);
        }

        /** What a mower says, if the one of the field hushed (NOBODY: none) says nothing. */
        int says(int field, int hushed) {
            int at = field;
            while (at > 0 && at != hushed && road[at].kind == ECHO) {
                at--;
            }
            return at == hushed ? NOBODY : road[at].saysItself(fear);
        }

        int ownerOf(int field, int hushed) {
            int said = says(field, hushed);
            return said >= 0 && hasTitle(said, road[field]) ? said : NOBODY;
        }

        private boolean hasTitle(int owner, Field to) {
            return title.work(to.told[owner], to.toldByAll(), fear[owner]) != 0;
        }

        int rentOf(int field) {
            int owner = ownerOf(field, NOBODY);
            if (owner < 0) {
                return 0;
            }
            Field of = road[field];
            return heldRent(rent.work(of.acres, of.told[owner], of.m));
        }

        int fieldsOf(int owner) {
            int sum = 0;
            for (int i = 0; i < fields; i++) {
                if (ownerOf(i, NOBODY) == owner) {
                    sum++;
                }
            }
            return sum;
        }

        int acresOf(int owner, int hushed) {
            int sum = 0;
            for (int i = 0; i < fields; i++) {
                if (ownerOf(i, hushed) == owner) {
                    sum += road[i].acres;
                }
            }
            return sum;
        }

        int rentsOf(int owner) {
            int sum = 0;
            for (int i = 0; i < fields; i++) {
                if (ownerOf(i, NOBODY) == owner) {
                    sum += rentOf(i);
                }
            }
            return sum;
        }

        int toldInAll() {
            int sum = 0;
            for (int i = 0; i < fields; i++) {
                sum += road[i].toldByAll();
            }
            return sum;
        }

        int coachAt(int field) {
            int minutes = 0;
            for (int i = 0; i <= field && i < fields; i++) {
                minutes += pace + road[i].ditch;
            }
            return minutes;
        }

        boolean refuses(int owner, int field) {
            return road[field].told[owner] >= MOST_TOLD || minute >= MOST_COUNTED;
        }

        // Echoes behind the field may come to be another's too, so all fields are looked at.
        void hearOut(int owner, int field) {
            for (int i = 0; i < fields; i++) {
                ownersBefore[i] = ownerOf(i, NOBODY);
            }
            road[field].listen(owner);
            for (int i = 0; i < fields; i++) {
                boolean isLost = ownersBefore[i] >= 0 && ownersBefore[i] != ownerOf(i, NOBODY);
                if (isLost && lost < MOST_COUNTED) {
                    lost++;
                }
            }
            minute++;
        }

        int draw() {
            z = z * 1103515245 + 12345;
            return z >>> 8;
        }

        boolean saysAsIn(Sheet sheet) {
            if (sheet.size != fields) {
                return false;
            }
            for (int i = 0; i < fields; i++) {
                if (says(i, NOBODY) != sheet.numbers[i]) {
                    return false;
                }
            }
            return true;
        }
    }

    /** What a text gives: numbers as they are, then names, then signs, each behind what it joins. */
    private static final class Law {
        static final int NAME = 10000;
        static final int SIGN = 20000;

        final String names;
        final int[] code = new int[MOST_BYTES];
        final int[] stack = new int[MOST_BYTES];
        int signs = 0;

        Law(String names) {
            this.names = names;
        }

        void beginAsTitle() {
            code[0] = NAME;
            code[1] = 2;
            code[2] = SIGN + '>';
            signs = 3;
        }

        void beginAsRent() {
            code[0] = NAME;
            signs = 1;
        }

        void takeOver(int[] other, int n) {
            int most = Math.min(n, Math.min(other.length, code.length));
            if (most > 0) {
                System.arraycopy(other, 0, code, 0, most);
                signs = most;
            }
        }

        int work(int a, int b, int c) {
            int top = 0;
            for (int i = 0; i < signs; i++) {
                int sign = code[i];
                if (sign < SIGN && top < stack.length) {
                    stack[top] = sign < NAME ? sign : sign == NAME ? a : sign == NAME + 1 ? b : c;
                    top++;
                } else if (sign == SIGN + '!' && top > 0) {
                    stack[top - 1] = stack[top - 1] == 0 ? 1 : 0;
                } else if (top > 1) {
                    top--;
                    stack[top - 1] = join(sign - SIGN, stack[top - 1], stack[top]);
                }
            }
            return top > 0 ? stack[0] : 0;
        }

        private static int join(int sign, int left, int right) {
            switch (sign) {
                case '|': return left != 0 || right != 0 ? 1 : 0;
                case '&': return left != 0 && right != 0 ? 1 : 0;
                case '<': return left < right ? 1 : 0;
                case '=': return left == right ? 1 : 0;
                case '>': return left > right ? 1 : 0;
                case '+': return left + right;
                case '-': return left - right;
                case '*': return left * right;
                case '/': return right == 0 ? 0 : left / right;
                default: return right == 0 ? 0 : left % right;
            }
        }
    }

    /** Reads the tape as a text; levels 0 to 4 are T, A, B, S and P of the document. */
    private static final class Reader {
        private static final int COMPARING = 2;
        private static final int LEVELS = 5;
        private static final int MOST_OPEN = 5;

        final int[] code = new int[MOST_BYTES];
        int signs = 0;
        private final int[] tape;
        private String names = "";
        private int bytes = 0;
        private int at = 0;
        private int open = 0;
        private boolean bad = false;

        Reader(int[] tape) {
            this.tape = tape;
        }

        /** Where the first bytes of the tape stop being a text, or -1. */
        int faultOf(int n, String ofNames) {
            bytes = Math.min(n, tape.length);
            names = ofNames;
            at = 0;
            open = 0;
            signs = 0;
            bad = false;
            readLevel(0);
            return bad || at < bytes ? at : -1;
        }

        private void readLevel(int level) {
            if (level >= LEVELS) {
                readQ();
                return;
            }
            readLevel(level + 1);
            int most = level == COMPARING ? 1 : MOST_BYTES;
            for (int joined = 0; joined < most && isNextOf(joinsOf(level)); joined++) {
                int sign = take();
                readLevel(level + 1);
                emit(Law.SIGN + sign);
            }
        }

        private static String joinsOf(int level) {
            switch (level) {
                case 0: return "|";
                case 1: return "&";
                case 2: return "<=>";
                case 3: return "+-";
                default: return "*/%";
            }
        }

        private void readQ() {
            if (isNextOf("0123456789")) {
                readNumber();
            } else if (isNextOf(names)) {
                emit(Law.NAME + names.indexOf((char) take()));
            } else if (isNextOf("!(") && open < MOST_OPEN) {
                open++;
                readOpened();
                open--;
            } else {
                bad = true;
            }
        }

        private void readOpened() {
            if (take() == '!') {
                readQ();
                emit(Law.SIGN + '!');
                return;
            }
            readLevel(0);
            if (isNextOf(")")) {
                take();
            } else {
                bad = true;
            }
        }

        private void readNumber() {
            int number = 0;
            for (int digits = 0; digits < 4 && isNextOf("0123456789"); digits++) {
                number = number * 10 + take() - '0';
            }
            emit(number);
        }

        private boolean isNextOf(String some) {
            return !bad && at < bytes && some.indexOf((char) tape[at]) >= 0;
        }

        private int take() {
            if (at >= bytes) {
                return 0;
            }
            int taken = tape[at];
            at++;
            return taken;
        }

        private void emit(int sign) {
            if (signs < code.length) {
                code[signs] = sign;
                signs++;
            }
        }
    }

    /** What would be: all that it changes in the land, it puts back. */
    private static final class Thought {
        int found = 0;
        int firstFound = 0;
        private final Land land;
        private final Field[] spares = new Field[MOST_TURNS];
        private final int[] needs = new int[MOST_FIELDS];
        private final int[] fearBefore = new int[OWNERS];

        Thought(Land land) {
            this.land = land;
            for (int i = 0; i < MOST_TURNS; i++) {
                spares[i] = new Field(i);
            }
        }

        /** The least number of tellings by which a field is an owner's, or -1. */
        int leastTellings(int owner, int field) {
            Field of = land.road[field];
            spares[0].copyFrom(of);
            int least = -1;
            for (int n = 0; n <= MOST_TOLD && least < 0; n++) {
                if (land.ownerOf(field, NOBODY) == owner) {
                    least = n;
                }
                of.listen(owner);
            }
            of.copyFrom(spares[0]);
            return least;
        }

        int bestSet(int owner) {
            for (int i = 0; i < land.fields; i++) {
                needs[i] = leastTellings(owner, i);
            }
            int best = 0;
            int most = 0;
            for (int set = 1; set < 1 << land.fields; set++) {
                int acres = acresBy(set);
                if (acres > most) {
                    most = acres;
                    best = set;
                }
            }
            return best;
        }

        /** Acres of a set by the needs that bestSet found, or -1, if the coach is ahead somewhere. */
        int acresBy(int set) {
            int acres = 0;
            int tellings = 0;
            int coach = 0;
            for (int i = 0; i < land.fields; i++) {
                Field of = land.road[i];
                coach += land.pace + of.ditch;
                if ((set >> i & 1) == 1) {
                    tellings += needs[i];
                    acres += of.acres;
                    if (needs[i] < 0 || i + tellings > coach) {
                        return -1;
                    }
                }
            }
            return acres;
        }

        int leadByTurns(int mover, int other, int n) {
            return bestLead(this, mover, other, n);
        }

        // Seen by the one who moves next, so that both want the most.
        private static int bestLead(Thought in, int mover, int other, int left) {
            if (left <= 0 || left > MOST_TURNS) {
                return in.leadNow(mover, other);
            }
            Field spare = in.spares[left - 1];
            int best = LOW;
            for (int i = 0; i < FIELDS_IN_TURNS && i < in.land.fields; i++) {
                Field of = in.land.road[i];
                spare.copyFrom(of);
                of.listen(mover);
                best = Math.max(best, -bestLead(in, other, mover, left - 1));
                of.copyFrom(spare);
            }
            return best;
        }

        private int leadNow(int mover, int other) {
            int lead = 0;
            for (int i = 0; i < land.fields; i++) {
                int owner = land.ownerOf(i, NOBODY);
                if (owner == mover) {
                    lead += land.road[i].acres;
                } else if (owner == other) {
                    lead -= land.road[i].acres;
                }
            }
            return lead;
        }

        void seekTelling(Sheet sheet) {
            found = 0;
            for (int owner = 0; owner < OWNERS; owner++) {
                for (int i = 0; i < land.fields; i++) {
                    Field of = land.road[i];
                    spares[0].copyFrom(of);
                    of.listen(owner);
                    noteIfSaid(sheet, 10 * owner + i);
                    of.copyFrom(spares[0]);
                }
            }
        }

        void seekFears(Sheet sheet) {
            found = 0;
            System.arraycopy(land.fear, 0, fearBefore, 0, OWNERS);
            for (int row = 0; row < 256; row++) {
                int a = row >> 6;
                int b = row >> 4 & 3;
                int c = row >> 2 & 3;
                int d = row & 3;
                if ((1 << a | 1 << b | 1 << c | 1 << d) == 15) {
                    land.fear[0] = a;
                    land.fear[1] = b;
                    land.fear[2] = c;
                    land.fear[3] = d;
                    noteIfSaid(sheet, 1000 * a + 100 * b + 10 * c + d);
                }
            }
            System.arraycopy(fearBefore, 0, land.fear, 0, OWNERS);
        }

        private void noteIfSaid(Sheet sheet, int way) {
            if (land.saysAsIn(sheet)) {
                if (found == 0) {
                    firstFound = way;
                }
                found++;
            }
        }

        // What stands below the line is a power of 2: halving both is all it takes.
        long oddsOf(int owner, int part) {
            long above = 1;
            long below = 1;
            for (int i = 0; i < land.fields; i++) {
                if (land.ownerOf(i, NOBODY) == owner) {
                    above *= 16 - land.road[i].m;
                    below *= 16;
                }
            }
            for (int halved = 0; halved < 4 * MOST_FIELDS && below > 1 && above % 2 == 0; halved++) {
                above /= 2;
                below /= 2;
            }
            return part == 0 ? above : below;
        }
    }

    /** The voices of mowers, and which bodies began, in order. */
    private static final class Voice {
        private static final int HEARS = 0;
        private static final int SAYS = 1;
        private static final int FEARS = 2;
        private static final int TELLS = 3;
        private static final int ACTS = 4;
        private static final int MOST_TRACED = 40;
        private static final int MOST_DEPTH = 20;
        private static final int[] BODIES = {
            10, 11, 12, 13,
            20, 0, 0, 0,
            0, 0, 30, 0,
            0, 40, 0, 0,
            0, 0, 0, 50,
            0, 0, 60, 61,
            0, 70, 0, 0,
        };

        final int[] trace = new int[MOST_TRACED];
        int bodies = 0;
        private int kind = 0;
        private int m = 0;
        private int n = 0;

        int speak(Field of, int act, int x) {
            bodies = 0;
            kind = of.kind;
            m = of.m;
            n = of.number;
            return body(this, kind, act, x, 0);
        }

        /** Works out the body of an act that stands nearest, from a kind on upward. */
        private static int body(Voice in, int from, int act, int x, int depth) {
            if (!isWithin(from, 0, KINDS - 1) || !isWithin(act, 0, ACTS - 1) || depth > MOST_DEPTH) {
                return 0;
            }
            int at = from;
            for (int up = 0; up < KINDS && at > 0 && BODIES[ACTS * at + act] == 0; up++) {
                at = KIND_ABOVE[at];
            }
            int begun = BODIES[ACTS * at + act];
            in.begin(begun);
            int above = KIND_ABOVE[at];
            int own = in.kind;
            int d = depth + 1;
            switch (begun) {
                case 10: return x + in.n;
                case 11: return body(in, own, HEARS, x, d) * 2;
                case 12: return x - in.m;
                case 13: return body(in, own, SAYS, x, d) ^ body(in, own, FEARS, x, d);
                case 20: return body(in, above, HEARS, x, d) * 3;
                case 30: return -body(in, above, FEARS, x, d);
                case 40: return body(in, above, SAYS, x, d) - body(in, own, FEARS, 1, d);
                case 50: return body(in, above, TELLS, x, d) - body(in, own, HEARS, 2, d);
                case 60: return body(in, above, FEARS, x, d) ^ in.n;
                case 61: return body(in, own, SAYS, x, d) - body(in, above, TELLS, x, d);
                case 70: return body(in, above, SAYS, x + 1, d);
                default: return 0;
            }
        }

        private void begin(int body) {
            if (bodies < MOST_TRACED) {
                trace[bodies] = body;
                bodies++;
            }
        }
    }

    /** A row of numbers of some width; of 0 bits, if it is missing. */
    private static final class Sheet {
        final int[] numbers = new int[MOST_NUMBERS];
        int bits = 0;
        int size = 0;

        void begin(int ofBits, int n) {
            bits = ofBits;
            size = n;
            Arrays.fill(numbers, 0);
        }

        int lowestBits(int v) {
            return bits == 8 ? (byte) v : bits == 16 ? (short) v : v;
        }

        boolean holds(int i, int n) {
            return n >= 0 && i >= 0 && n <= size && i <= size - n;
        }
    }
}
