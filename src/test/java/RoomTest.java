import java.lang.management.ManagementFactory;

/** All calls of one run live in one room: a call makes no objects, a new object makes few. */
public final class RoomTest {
    /** Of 20 calls each: with those that fill the organ not quite the 512 that an object is used for. */
    private static final int ROUNDS = 21;

    private static long made() {
        com.sun.management.ThreadMXBean threads = (com.sun.management.ThreadMXBean) ManagementFactory.getThreadMXBean();
        return threads.getThreadAllocatedBytes(Thread.currentThread().getId());
    }

    private static GonePipes fullOrgan() {
        GonePipes x = new GonePipes();
        for (int i = 0; i < 5; i++) {
            x.place(i % 3, 3 * i, 24 - i, 5 * i, 30 - 7 * i);
        }
        for (int i = 0; i < 8; i++) {
            x.pipe(i % 6, 12 * (i % 2) + i % 3);
        }
        for (int i = 0; i < 24; i++) {
            x.note(i / 8, i);
        }
        x.pass(9);
        for (int i = 0; i < 6; i++) {
            x.reading(i, 72, i % 5, 0);
        }
        String text = "organ;pipe 3 5;hymn 0 1 2 3;place 1 2 3 4 5;";
        for (int i = 0; i < text.length(); i++) {
            x.type(text.charAt(i));
        }
        return x;
    }

    private static long dearCalls(GonePipes x) {
        long sum = x.listen(3, 72) + x.wish(2, 72) + x.may(1) + x.falls(0) + x.fetchAll(1) + x.walk(255, 0);
        sum += x.hours(4711, 60) + x.then(72, 1) + x.left(72) + x.best(2) + x.feast(0, 0, 7) + x.pass(48);
        sum += x.undo() + x.image(0) + x.from(0) + x.read() + x.from(0) + x.fetch(0) + x.digest() + x.of(9, 9);
        return sum;
    }

    public static void main(String[] args) {
        GonePipes warm = fullOrgan();
        for (int i = 0; i < ROUNDS; i++) {
            dearCalls(warm);
        }
        long before = made();
        GonePipes x = fullOrgan();
        long once = made() - before;
        before = made();
        long sum = 0;
        for (int i = 0; i < ROUNDS; i++) {
            sum += dearCalls(x);
        }
        long calls = made() - before;
        System.out.println("bytes made by a new object " + once + ", by " + 20 * ROUNDS + " calls " + calls + " (" + sum + ")");
        if (once > 16000 || calls > 2000) {
            System.out.println("too much is made");
            System.exit(1);
        }
    }
}
