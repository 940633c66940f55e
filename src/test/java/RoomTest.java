import java.lang.management.ManagementFactory;

/** What calls make is not given back: after the constructor no call makes anything. */
final class RoomTest {
    private static final String TITLE = "!(!(n*t+f>2|n-t*f<9&n%3=0))|((n+t)*(f+1))/7>0";

    private RoomTest() {
    }

    public static void main(String[] args) {
        com.sun.management.ThreadMXBean room =
                (com.sun.management.ThreadMXBean) ManagementFactory.getThreadMXBean();
        long self = Thread.currentThread().getId();
        FieldsTold[] some = new FieldsTold[3];
        callAll(new FieldsTold());
        long before = room.getThreadAllocatedBytes(self);
        for (int i = 0; i < some.length; i++) {
            some[i] = new FieldsTold();
        }
        long made = room.getThreadAllocatedBytes(self) - before;
        Checks.isTrue("an object takes " + made / 3 + " bytes", made / 3 < 20000);
        for (FieldsTold x : some) {
            prepare(x);
        }
        before = room.getThreadAllocatedBytes(self);
        for (FieldsTold x : some) {
            for (int i = 0; i < 5; i++) {
                callAll(x);
            }
        }
        made = room.getThreadAllocatedBytes(self) - before;
        Checks.isTrue("calls take " + made + " bytes", made < 2000);
        Checks.end("RoomTest");
    }

    private static void prepare(FieldsTold x) {
        for (int i = 0; i < 10; i++) {
            x.field(i % 7 * 10 + i, 10 + i);
        }
        Checks.same("a title", Checks.read(x, 0, TITLE), 1);
        x.sheet(0, 8, 10);
        x.sheet(1, 8, 10);
    }

    private static long callAll(FieldsTold x) {
        long sum = x.field(0, 1) + x.ofField(0, 8) + x.tellings(0, 0) + x.ofOwner(0, 3) + x.become(1, 20) + x.as(1, 2);
        sum += x.set(0, 0, 5) + x.fear(0, 1) + x.pace(9) + x.forgets(3) + x.tells(0, 0) + x.loose(100);
        sum += x.feed('n', 1) + x.text(1) + x.law(0, 1, 2, 3) + x.needed(0, 0) + x.coach(0) + x.gain(0, 0);
        sum += x.turns(0, 1, 4) + x.one(0, 0) + x.fears(0, 0) + x.silence(0, 0) + x.odds(0, 0) + x.seed(8);
        sum += x.voice(0, 3, 3) + x.trace(0) + x.sheet(0, 8, 10) + x.put(0, 0, 1) + x.move(0, 0, 1, 0, 5);
        return sum + x.acres(0) + x.judge(0) + x.image() + x.restore() + x.tell(0) + x.check() + x.count(3) + x.told(1);
    }
}
