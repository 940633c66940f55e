/** Promises 1 to 11: a new object, fields, mowers, owners, the coach's pace. */
final class FieldsTest {
    private FieldsTest() {
    }

    public static void main(String[] args) {
        aNewObject();
        addsFields();
        tellsOfFields();
        saysByKinds();
        echoesTheFieldAhead();
        tellsOfTellings();
        tellsOfOwners();
        tellsOfTenFields();
        becomes();
        isOfKinds();
        sets();
        fears();
        paces();
        forgets();
        Checks.end("FieldsTest");
    }

    private static void aNewObject() {
        FieldsTold x = new FieldsTold();
        long[] counts = {0, 0, 0, 0, 4, 0, 0, 0, 0, 1};
        for (int i = 0; i < 10; i++) {
            Checks.same("count(" + i + ") at first", x.count(i), counts[i]);
        }
        for (int i = 0; i < 4; i++) {
            Checks.same("fear at first", x.ofOwner(i, 0), i);
            Checks.same("fields at first", x.ofOwner(i, 1), 0);
            Checks.same("a sheet at first", x.judge(i), Checks.NONE);
        }
        Checks.same("law(0) at first", x.law(0, 3, 0, 0), 1);
        Checks.same("law(0) at first", x.law(0, 2, 9, 9), 0);
        Checks.same("law(1) at first", x.law(1, 77, 5, 5), 77);
        Checks.same("an image at first", x.restore(), Checks.NONE);
        Checks.same("the trace at first", x.trace(0), Checks.NONE);
        Checks.same("told(2) at first", x.told(2), 6);
        Checks.same("told(1) at first", x.told(1), 0);
    }

    private static void addsFields() {
        FieldsTold x = new FieldsTold();
        for (int km : new int[] {-1, 70, Integer.MIN_VALUE, Integer.MAX_VALUE}) {
            Checks.same("field by km " + km, x.field(km, 1), Checks.BEYOND);
        }
        for (int acres : new int[] {0, 100, -1, Integer.MIN_VALUE, Integer.MAX_VALUE}) {
            Checks.same("field by acres " + acres, x.field(0, acres), Checks.BEYOND);
        }
        Checks.same("fields", x.count(0), 0);
        for (int i = 0; i < 10; i++) {
            Checks.same("field", x.field(i % 2 == 0 ? 69 : 0, i % 2 == 0 ? 1 : 99), i);
        }
        Checks.same("an eleventh", x.field(0, 1), Checks.FULL);
        Checks.same("beyond ahead of full", x.field(70, 1), Checks.BEYOND);
        Checks.same("fields", x.count(0), 10);
        Checks.same("nobody's", x.count(3), 10);
    }

    private static void tellsOfFields() {
        FieldsTold x = new FieldsTold();
        x.field(7, 55);
        int[] due = {0, 7, 55, 0, -1, -1, -1, -1, 0, 0};
        for (int what = 0; what < 10; what++) {
            Checks.same("ofField(0, " + what + ")", x.ofField(0, what), due[what]);
        }
        x.set(0, 1, 9);
        Checks.tell(x, 2, 0, 1);
        Checks.tell(x, 1, 0, 3);
        int[] then = {0, 7, 55, 9, 2, 1, 1, 1, 55, 4};
        for (int what = 0; what < 10; what++) {
            Checks.same("ofField(0, " + what + ") then", x.ofField(0, what), then[what]);
        }
        for (int wild : new int[] {-1, 1, 10, Integer.MIN_VALUE, Integer.MAX_VALUE}) {
            Checks.same("ofField(" + wild + ", 0)", x.ofField(wild, 0), Checks.BEYOND);
        }
        for (int wild : new int[] {-1, 10, Integer.MIN_VALUE, Integer.MAX_VALUE}) {
            Checks.same("ofField(0, " + wild + ")", x.ofField(0, wild), Checks.BEYOND);
        }
    }

    private static void saysByKinds() {
        FieldsTold x = new FieldsTold();
        x.field(0, 1);
        x.field(0, 1);
        Checks.tell(x, 3, 1, 1);
        Checks.tell(x, 0, 1, 3);
        Checks.tell(x, 2, 1, 3);
        Checks.tell(x, 1, 1, 2);
        // told: owner 0 three times, 1 twice, 2 three times, 3 once; first 3, last 1
        says(x, 0, 1);
        says(x, 17, 3);
        says(x, 14, 0);
        says(x, 25, 3);
        says(x, 38, 3);
        says(x, 42, 2);
        says(x, 41, -1);
        says(x, 40, -1);
        says(x, 54, 3);
        says(x, 55, 0);
        x.fear(3, 0);
        says(x, 20, 2);
        x.fear(1, 2);
        says(x, 20, 1);
        says(x, 52, 1);
        says(x, 53, 0);
        x.fear(0, 9);
        says(x, 20, 0);
        x.forgets(1);
        for (int km : new int[] {0, 20, 30, 50, 51, 41}) {
            says(x, km, -1);
        }
        says(x, 13, 3);
        Checks.same("become", x.become(0, 41), 0);
        Checks.same("silent in field 0", x.ofField(0, 6), 1);
    }

    private static void says(FieldsTold x, int km, int due) {
        x.become(1, km);
        Checks.same("the mower " + km + " says", x.ofField(1, 6), due);
    }

    private static void echoesTheFieldAhead() {
        FieldsTold x = new FieldsTold();
        x.field(61, 1);
        x.field(60, 1);
        x.field(13, 1);
        x.field(63, 1);
        x.field(65, 1);
        Checks.tell(x, 2, 0, 1);
        Checks.tell(x, 1, 0, 2);
        Checks.same("an echo in field 0 is as loyal", x.ofField(0, 6), 2);
        Checks.same("its echo", x.ofField(1, 6), 2);
        Checks.tell(x, 1, 1, 1);
        Checks.same("an even echo hears nothing", x.ofField(1, 9), 0);
        Checks.same("a deaf one hears nothing", x.tells(1, 2), -1);
        Checks.same("a deaf one hears nothing", x.ofField(2, 9), 0);
        Checks.same("an echo of a deaf one", x.ofField(3, 6), 3);
        Checks.same("an echo of an echo", x.ofField(4, 6), 3);
        Checks.tell(x, 3, 4, 3);
        Checks.same("an odd echo hears", x.tellings(4, 3), 3);
        Checks.same("its title is its own field's", x.ofField(4, 7), 3);
        Checks.same("not the echo's ahead", x.ofField(3, 7), -1);
    }

    private static void tellsOfTellings() {
        FieldsTold x = new FieldsTold();
        x.field(0, 1);
        x.field(30, 1);
        Checks.tell(x, 3, 1, 9);
        Checks.tell(x, 0, 1, 2);
        Checks.same("tellings", x.tellings(1, 3), 9);
        Checks.same("tellings", x.tellings(1, 0), 2);
        Checks.same("tellings", x.tellings(1, 1), 0);
        Checks.same("tellings", x.tellings(0, 3), 0);
        for (int wild : new int[] {-1, 2, Integer.MIN_VALUE, Integer.MAX_VALUE}) {
            Checks.same("tellings(" + wild + ", 0)", x.tellings(wild, 0), Checks.BEYOND);
        }
        for (int wild : new int[] {-1, 4, Integer.MIN_VALUE, Integer.MAX_VALUE}) {
            Checks.same("tellings(0, " + wild + ")", x.tellings(0, wild), Checks.BEYOND);
        }
    }

    private static void tellsOfOwners() {
        FieldsTold x = new FieldsTold();
        x.field(1, 10);
        x.field(2, 20);
        x.field(3, 40);
        Checks.tell(x, 1, 0, 3);
        Checks.tell(x, 1, 1, 4);
        Checks.tell(x, 2, 2, 5);
        Checks.same("a rent's text", Checks.read(x, 1, "a*n+m"), 1);
        int[][] due = {{0, 0, 0, 0}, {1, 2, 30, 31 + 82}, {2, 1, 40, 203}, {3, 0, 0, 0}};
        for (int owner = 0; owner < 4; owner++) {
            for (int what = 0; what < 4; what++) {
                Checks.same("ofOwner(" + owner + ", " + what + ")", x.ofOwner(owner, what), due[owner][what]);
            }
        }
        Checks.same("rents are held each by itself", Checks.read(x, 1, "a*0-1"), 1);
        Checks.same("rents", x.ofOwner(1, 3), 0);
        Checks.same("rents are held each by itself", Checks.read(x, 1, "a*999"), 1);
        Checks.same("rents", x.ofOwner(1, 3), 1998);
        for (int wild : new int[] {-1, 4, Integer.MIN_VALUE, Integer.MAX_VALUE}) {
            Checks.same("ofOwner(" + wild + ", 0)", x.ofOwner(wild, 0), Checks.BEYOND);
            Checks.same("ofOwner(0, " + wild + ")", x.ofOwner(0, wild), Checks.BEYOND);
        }
    }

    private static void tellsOfTenFields() {
        FieldsTold x = new FieldsTold();
        for (int i = 0; i < 10; i++) {
            x.field(0, 10 + i);
            Checks.tell(x, 0, i, 3);
        }
        Checks.same("fields of owner 0", x.ofOwner(0, 1), 10);
        Checks.same("their acres", x.ofOwner(0, 2), 145);
        Checks.same("their rents", x.ofOwner(0, 3), 145);
        Checks.same("a rent to owner 0", x.ofField(9, 8), 19);
        Checks.same("tellings by all", x.count(5), 30);
        Checks.same("nobody's", x.count(3), 0);
    }

    private static void becomes() {
        FieldsTold x = new FieldsTold();
        x.field(34, 10);
        Checks.tell(x, 1, 0, 3);
        Checks.tell(x, 2, 0, 1);
        Checks.same("become", x.become(0, 9), 3);
        Checks.same("its m", x.ofField(0, 1), 9);
        Checks.same("what it was told stays", x.tellings(0, 1), 3);
        Checks.same("its first stays", x.ofField(0, 4), 1);
        Checks.same("it says its last", x.ofField(0, 6), 2);
        Checks.same("become", x.become(0, 69), 0);
        Checks.same("become", x.become(0, 0), 6);
        for (int wild : new int[] {-1, 70, Integer.MIN_VALUE, Integer.MAX_VALUE}) {
            Checks.same("become by km " + wild, x.become(0, wild), Checks.BEYOND);
            Checks.same("become of field " + wild, x.become(wild, 0), Checks.BEYOND);
        }
        Checks.same("its kind", x.ofField(0, 0), 0);
    }

    private static void isOfKinds() {
        FieldsTold x = new FieldsTold();
        x.field(0, 10);
        int[] above = {-1, 0, 0, 0, 1, 2, 3};
        for (int kind = 0; kind < 7; kind++) {
            x.become(0, 10 * kind + kind);
            for (int of = 0; of < 7; of++) {
                boolean isUnder = of == kind || of == above[kind] || of == 0;
                Checks.same(kind + " as " + of, x.as(0, of), isUnder ? kind : Checks.KIND);
            }
        }
        for (int wild : new int[] {-1, 7, Integer.MIN_VALUE, Integer.MAX_VALUE}) {
            Checks.same("as kind " + wild, x.as(0, wild), Checks.BEYOND);
            Checks.same("as of field " + wild, x.as(wild, 0), Checks.BEYOND);
        }
        Checks.same("told(5)", x.told(5), 6 + 5 + 5 + 5 + 4 + 4 + 4);
    }

    private static void sets() {
        FieldsTold x = new FieldsTold();
        x.field(0, 10);
        Checks.same("acres", x.set(0, 0, 99), 10);
        Checks.same("acres", x.set(0, 0, 1), 99);
        Checks.same("a ditch", x.set(0, 1, 9), 0);
        Checks.same("a ditch", x.set(0, 1, 0), 9);
        for (int wild : new int[] {0, 100, -1, Integer.MIN_VALUE, Integer.MAX_VALUE}) {
            Checks.same("acres " + wild, x.set(0, 0, wild), Checks.BEYOND);
        }
        for (int wild : new int[] {10, -1, Integer.MIN_VALUE, Integer.MAX_VALUE}) {
            Checks.same("a ditch of " + wild, x.set(0, 1, wild), Checks.BEYOND);
        }
        for (int wild : new int[] {2, -1, Integer.MIN_VALUE, Integer.MAX_VALUE}) {
            Checks.same("what " + wild, x.set(0, wild, 5), Checks.BEYOND);
            Checks.same("of field " + wild, x.set(wild, 0, 5), Checks.BEYOND);
        }
        Checks.same("acres", x.ofField(0, 2), 1);
        Checks.same("a ditch", x.ofField(0, 3), 0);
    }

    private static void fears() {
        FieldsTold x = new FieldsTold();
        for (int owner = 0; owner < 4; owner++) {
            Checks.same("fear", x.fear(owner, 9), owner);
            Checks.same("fear", x.fear(owner, 0), 9);
        }
        for (int wild : new int[] {-1, 10, Integer.MIN_VALUE, Integer.MAX_VALUE}) {
            Checks.same("fear of " + wild, x.fear(0, wild), Checks.BEYOND);
            Checks.same("fear of owner " + wild, x.fear(wild, 0), Checks.BEYOND);
        }
        Checks.same("fear of owner 4", x.fear(4, 0), Checks.BEYOND);
        Checks.same("fear", x.ofOwner(0, 0), 0);
    }

    private static void paces() {
        FieldsTold x = new FieldsTold();
        Checks.same("pace", x.pace(20), 4);
        Checks.same("pace", x.pace(1), 20);
        for (int wild : new int[] {-1, 0, 21, Integer.MIN_VALUE, Integer.MAX_VALUE}) {
            Checks.same("pace of " + wild, x.pace(wild), Checks.BEYOND);
        }
        Checks.same("pace", x.count(4), 1);
    }

    private static void forgets() {
        FieldsTold x = new FieldsTold();
        x.field(0, 10);
        x.field(0, 10);
        Checks.tell(x, 1, 0, 3);
        Checks.tell(x, 2, 0, 2);
        Checks.tell(x, 2, 1, 4);
        Checks.same("forgets", x.forgets(0), 5);
        Checks.same("forgets again", x.forgets(0), 0);
        Checks.same("its first", x.ofField(0, 4), -1);
        Checks.same("its last", x.ofField(0, 5), -1);
        Checks.same("another's tellings", x.tellings(1, 2), 4);
        Checks.same("minutes stay", x.count(1), 9);
        Checks.same("to forget loses no title", x.count(2), 1);
        Checks.same("forgets", x.forgets(1), 4);
        Checks.same("to forget loses no title", x.count(2), 1);
        for (int wild : new int[] {-1, 2, Integer.MIN_VALUE, Integer.MAX_VALUE}) {
            Checks.same("forgets(" + wild + ")", x.forgets(wild), Checks.BEYOND);
        }
    }
}
