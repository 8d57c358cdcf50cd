import java.lang.management.ManagementFactory;

/** What an object and its calls ask of the room in which all calls of a run live: the calls make next to nothing. */
public final class ThriftTest {
    private static final com.sun.management.ThreadMXBean BEAN =
            (com.sun.management.ThreadMXBean) ManagementFactory.getThreadMXBean();

    private static long sum;

    public static void main(String[] args) {
        RapTable warm = new RapTable();
        set(warm);
        ask(warm, 3);
        long before = bytes();
        RapTable x = new RapTable();
        long made = bytes() - before;
        before = bytes();
        set(x);
        x.image(0);
        x.image(1);
        x.image(2);
        long imaged = bytes() - before;
        before = bytes();
        long from = System.nanoTime();
        ask(x, 20);
        long seconds = (System.nanoTime() - from) / 1000000000L;
        long asked = bytes() - before;
        System.out.println("an object takes " + made + " bytes, its images " + imaged + ", 400 dear calls " + asked
                + " and " + seconds + " s (" + sum + ")");
        // 7.3 million fields and elements of 4 bytes are some 29 million bytes, for all calls of a run
        if (made > 80000 || imaged > 80000 || asked > 20000) {
            System.out.println("that is too much");
            System.exit(1);
        }
    }

    private static long bytes() {
        return BEAN.getThreadAllocatedBytes(Thread.currentThread().getId());
    }

    private static void set(RapTable x) {
        x.room(9);
        x.light(0, 99, 3);
        for (int i = 0; i < 8; i++) {
            x.thing(i);
            x.control(i % 3, i, i, 0, 99, i + 1);
            x.attend(i, 9, 0, 99);
        }
        for (int i = 0; i < 12; i++) {
            x.lead(i % 9, 5, i, 99);
        }
        for (int i = 0; i < 30; i++) {
            x.report(i % 9, 0, i % 8, 9, 0, 99, 1);
        }
    }

    private static void ask(RapTable x, int times) {
        for (int i = 0; i < times; i++) {
            // way a ready left 20 move left 20; 
            x.feed(0x77617920, 0x61207265, 0x61647920, 0x6C656674, 0x20323020);
            x.feed(0x6D6F7665, 0x206C6566, 0x74203230, 0x3B202020, 0x20202020);
            sum += x.text(40);
            sum += x.cheapest(0, 9, 0, 99, 0) + x.closes(255, 0, 9, 0, 99) + x.opens(3, 0, 9, 0, 99);
            sum += x.culprits((1 << 30) - 1) + x.pass(0, 5, 255, 0, 99, -1) + x.next(0, 1000);
            sum += x.stories(0, true, 0) + x.least(0, 0) + x.gap(0, false, 3) + x.ease(511, 300);
            sum += x.luck(3) + x.chance(2, 100) + x.fair(255, 1, 1000, 0, 9, 0, 99) + x.record(0, 3);
            sum += (x.image(1) ? 1 : 0) + (x.restore(1) ? 1 : 0) + x.vouch(0, 0, true);
            sum += x.fits(0, 0, 0, 0, 9, 0, 99);
        }
    }
}
