import java.lang.management.ManagementFactory;

/** All calls live in one room: an object makes its rows once, and no call makes anything more. */
public final class RoomTests {
    private static final int BYTES_OF_AN_OBJECT = 100_000;

    public static void main(String[] args) {
        com.sun.management.ThreadMXBean threads =
                (com.sun.management.ThreadMXBean) ManagementFactory.getThreadMXBean();
        long id = Thread.currentThread().getId();
        use(new DarkestDay());
        long start = threads.getThreadAllocatedBytes(id);
        DarkestDay x = new DarkestDay();
        long made = threads.getThreadAllocatedBytes(id) - start;
        start = threads.getThreadAllocatedBytes(id);
        use(x);
        long used = threads.getThreadAllocatedBytes(id) - start;
        // The measure itself may cost a little; one row in one of these calls would cost far more.
        boolean fine = made <= BYTES_OF_AN_OBJECT && used <= 1000;
        if (!fine) {
            System.out.println("an object takes " + made + " bytes, its calls " + used);
        }
        System.out.println("RoomTests: " + (fine ? "1 passed, 0 failed" : "0 passed, 1 failed"));
        System.exit(fine ? 0 : 1);
    }

    private static void use(DarkestDay x) {
        tell(x, 0x73643330, 0x3B6B3B6B, 0x76353B70, 0x3B706831, 0);
        x.text(0);
        tell(x, 0x793A2169, 0x3C333F5B, 0x692B665D, 0x2A323B79, 0x3A350000);
        x.fault(1);
        x.text(1);
        x.law(0);
        tell(x, 0x643B6231, 0x3B66323B, 0x653B6400, 0, 0);
        x.text(2);
        if (x.count(0) != 2 || x.count(3) != 1 || x.count(4) != 1) {
            throw new IllegalStateException("a text of this test is wrong");
        }
        for (int i = 0; i < 400; i++) {
            all(x, i % 9);
        }
    }

    private static void all(DarkestDay x, int i) {
        x.pass();
        x.habit(i % 2, i % 3);
        x.bed(i % 2);
        x.fog(i);
        x.eclipse();
        x.candles(i);
        x.give(50);
        x.years(i * 7, 99L * i);
        x.undo();
        x.run(0, i % 2);
        x.perform(0);
        x.coming(0);
        x.may(i);
        x.governs(i * 7);
        x.round(i % 2);
        x.swings(i % 2);
        x.bedding(i % 2);
        x.coins(i * 11);
        x.seen(i * 6 + 1, 30, i > 4);
        x.habits(0, 0);
        x.ask(1);
        x.game(0, 1, 1, 0, 0);
        x.rests(0, 1, -1);
        x.odds(i, 50);
        x.shares(0, 100);
        x.all(i);
        x.image();
        x.back();
    }

    private static void tell(DarkestDay x, int a, int b, int c, int d, int e) {
        x.end(0);
        x.feed(a, b, c, d, e);
    }
}
