import java.lang.management.ManagementFactory;

/** All calls of a run live in one room: rows are made with the object, and calls make nothing. */
public final class RoomTest {
    public static void main(String[] args) {
        com.sun.management.ThreadMXBean meter = (com.sun.management.ThreadMXBean) ManagementFactory.getThreadMXBean();
        long thread = Thread.currentThread().getId();
        long answers = run(512);
        long before = meter.getThreadAllocatedBytes(thread);
        answers += run(1);
        long made = meter.getThreadAllocatedBytes(thread);
        answers += run(512);
        long all = meter.getThreadAllocatedBytes(thread);
        long few = made - before, many = all - made;
        Check.holds("a new object takes " + few + " bytes", few < 200_000);
        Check.holds("512 dear calls take " + (many - few) + " bytes more", many - few < 20_000);
        Check.holds("answers", answers != 0);
        Check.finish();
    }

    /** An object and dear calls on it: fifty ticks with much data both ways, packets fed, lists wanted. */
    private static long run(int calls) {
        FlowTalk x = new FlowTalk(1L, 2L, 0);
        long sum = x.listen() + x.open();
        for (int i = 0; i < calls; i++) {
            switch (i % 8) {
                case 0: case 1: case 2: sum += x.give(i & 1, 40, i); break;
                case 3: sum += x.want(i / 8 & 1, 3 + (i / 16 & 1), true, 2, (i / 16 & 1) == 0 ? 1 : 0x201); break;
                case 4: sum += x.feed(i, i, i, i, i); break;
                case 5: sum += x.put(i / 8 & 1, 20, true) + x.repeat(0, 1); break;
                case 6: sum += x.number(0, 0) + x.count(1, 11) + x.got(1, 0, 0) + x.sent(0, 5) + x.seen(1, 5); break;
                default: sum += x.tick(50);
            }
        }
        return sum;
    }
}
