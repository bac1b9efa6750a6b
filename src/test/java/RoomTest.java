import java.lang.management.ManagementFactory;

/**
 * All calls of a run live in one room: what an object needs is made with it, no call makes anything.
 * And the same calls answer the same on two objects, whatever was asked between.
 */
public final class RoomTest {
    private static final com.sun.management.ThreadMXBean ROOM =
            (com.sun.management.ThreadMXBean) ManagementFactory.getThreadMXBean();
    private static final int MOST_BYTES_OF_AN_OBJECT = 20_000;
    private static int wrong = 0;

    private static long made() {
        return ROOM.getThreadAllocatedBytes(Thread.currentThread().getId());
    }

    private static long ask(CubeBodies x, int i) {
        long sum = x.corner(i & 7, i >> 3 & 1) + x.move(i % 48) + x.becomes(i % 4) + x.code(i & 255) + x.keep();
        sum += x.feed("+01;m47;f;o;k;u;i;-3;x".charAt(i % 22)) + x.told(i % 13) + x.carried(i % 48, i & 7);
        sum += x.imaged(i % 48) + x.form(i % 23) + x.classes(i % 9) + x.weighs(1, -2, 3, i % 3) + x.face(i % 8);
        sum += x.edge(i & 7, i >> 3 & 7) + x.points(1 + i % 3) + x.holds(1 + i % 3, 1, 1, i & 3) + x.floats(i & 3);
        sum += x.spread() + x.see(i % 4, 2) + x.fits() + x.odds(i & 7, 1) + x.mean(0) + x.event(1, i % 48);
        sum += x.after(i % 3) + x.book(i & 7, 1) + x.looked() + x.judge(i % 6, 0) + x.image() + x.undo();
        sum += x.count(i & 3) + x.tape(i % 6, i % 5, i % 61) + x.item(i % 6, i % 9, i) + x.peek(i % 6, i % 9);
        sum += x.shift(i % 6, 0, i / 6 % 6, 1, 2);
        if (i % 23 == 22) sum += x.read() + x.see(-1, 0) + x.event(-1, 0) + x.book(-1, 0);
        return sum;
    }

    private static void due(String what, boolean is, long number) {
        if (!is) {
            wrong++;
            System.out.println(what + ": " + number);
        }
    }

    public static void main(String[] args) {
        CubeBodies warm = new CubeBodies();
        for (int i = 0; i < 1024; i++) ask(warm, i);
        made();

        long before = made();
        CubeBodies x = new CubeBodies();
        long object = made() - before;
        due("bytes of a new object", object < MOST_BYTES_OF_AN_OBJECT, object);

        before = made();
        long sum = 0;
        for (int i = 0; i < 512; i++) sum += ask(x, i);
        long calls = made() - before;
        due("bytes made by 512 rounds of all calls", calls < 1000, calls);

        CubeBodies again = new CubeBodies();
        long other = 0;
        for (int i = 0; i < 512; i++) {
            other += ask(again, i);
            ask(warm, 511 - i);
        }
        due("another object answers otherwise", sum == other, other - sum);
        System.out.println(wrong == 0 ? "a new object takes " + object + " bytes, its calls none" : wrong + " not as due");
        if (wrong != 0) System.exit(1);
    }
}
