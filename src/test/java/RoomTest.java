import java.lang.management.ManagementFactory;

/** All calls of one run live in one room: what an object takes when it is made, and what its calls take. */
public final class RoomTest {
    private static final com.sun.management.ThreadMXBean BEAN =
            (com.sun.management.ThreadMXBean) ManagementFactory.getThreadMXBean();
    private static long sum = 0;

    public static void main(String[] args) {
        Check check = new Check("RoomTest");
        useAll(new EggSpoons());
        EggSpoons[] made = new EggSpoons[100];
        long before = allocated();
        for (int k = 0; k < made.length; k++) {
            made[k] = new EggSpoons();
        }
        long perObject = (allocated() - before) / made.length;
        check.holds("an object takes some 10,000 bytes: " + perObject, perObject < 16000);
        before = allocated();
        for (EggSpoons x : made) {
            useAll(x);
        }
        long perUse = (allocated() - before) / made.length;
        check.holds("calls make nothing: " + perUse, perUse < 1000);
        check.finish();
        if (sum == 42) {
            System.out.println();
        }
    }

    private static long allocated() {
        return BEAN.getThreadAllocatedBytes(Thread.currentThread().getId());
    }

    private static void useAll(EggSpoons x) {
        String text = "race 60;one 0 9 0;one 1 8 1;one 2 7 2;one 3 6 3;one 4 5 4;one 5 4 5;go 9;start 0 3;speed 0 9;";
        for (int k = 0; k < text.length(); k++) {
            sum += x.type(text.charAt(k));
        }
        sum += x.read();
        for (int i = 0; i < 6; i++) {
            int b = (i + 1) % 6;
            sum += x.seen(i, 3, 9, 4) + x.note(i, 4, 3, 2, 2) + x.mark(i, 4, 4) + x.image(i) + x.from(i);
            sum += x.speed(i, 5) + x.start(i, 1) + x.ticks(3) + x.of(i, 8) + x.where(i, 60) + x.home(i) + x.first();
            sum += x.order(i) + x.best(i, 0) + x.turn(i, 9, 1) + x.beats(i, b) + x.close(i, b, 1) + x.strong(i, 0);
            sum += x.tell(i) + x.is(i) + x.look(i) + x.kinds(i) + x.ask(i) + x.pair(i, b, -1);
            sum += x.stumble(i, 9, 6, 3) + x.races(i, 60) + x.part(0) + x.status(i) + x.count(i) + x.digest();
            sum += x.undo() + x.forget(i);
        }
        sum += x.one(0, 1, 0) + x.clear() + x.race(20);
    }
}
