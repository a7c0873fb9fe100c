import java.util.Random;

/** Any arguments in any state: no call throws or fails to end, and each answers what Model does. */
public final class WildTest {
    private static final int[] EDGES = {Integer.MIN_VALUE, Integer.MIN_VALUE + 1, -256, -101, -2, -1, 0, 1, 2, 3, 4, 5, 6, 15, 16, 17,
        20, 21, 39, 40, 41, 49, 50, 51, 59, 60, 61, 100, 119, 120, 121, 219, 220, 221, 255, 256, 65535, Integer.MAX_VALUE - 1,
        Integer.MAX_VALUE};
    private static Random random;

    public static void main(String[] args) {
        for (int seed = 1; seed <= 300; seed++) {
            random = new Random(seed);
            long a = any(), b = any();
            int d = edge();
            FlowTalk x = new FlowTalk(a, b, d);
            Model y = new Model(a, b, d);
            for (int call = 0; call < 512; call++) {
                if (!call(x, y, seed, call)) break;
            }
        }
        Check.finish();
    }

    private static int edge() {
        return random.nextInt(8) == 0 ? random.nextInt() : EDGES[random.nextInt(EDGES.length)];
    }

    /** Mostly one that is taken. */
    private static int often(int bound) {
        return random.nextInt(3) == 0 ? edge() : random.nextInt(bound);
    }

    private static long any() {
        return random.nextBoolean() ? random.nextLong() : edge();
    }

    private static boolean call(FlowTalk x, Model y, int seed, int call) {
        int kind = random.nextInt(30);
        int i = often(4), k = often(20), n = often(30), e = often(2), m = edge(), w = often(6);
        boolean t = random.nextBoolean();
        long v = random.nextInt(3) == 0 ? any() : y.number(n & 1, w % 3 == 0 ? 0 : 2) - random.nextInt(300) + 20;
        long got, due;
        switch (kind) {
            case 0: got = x.open(); due = y.open(); break;
            case 1: got = x.listen(); due = y.listen(); break;
            case 2: got = x.close(m); due = y.close(m); break;
            case 3: case 4: got = x.give(e, n, v); due = y.give(e, n, v); break;
            case 5: case 6: got = x.want(e, w, t, i, m); due = y.want(e, w, t, i, m); break;
            case 7: case 8: case 9: case 10: got = x.tick(w); due = y.tick(w); break;
            case 11: got = x.lose(m); due = y.lose(m); break;
            case 12: got = x.hold(i, n); due = y.hold(i, n); break;
            case 13: got = x.repeat(i, n); due = y.repeat(i, n); break;
            case 14: got = x.alter(m, k, n); due = y.alter(m, k, n); break;
            case 15: case 16: got = x.feed(m, i, k, n, w); due = y.feed(m, i, k, n, w); break;
            case 17: case 18: got = x.put(e, k, t); due = y.put(e, k, t); break;
            case 19: got = x.way(); due = y.way(); break;
            case 20: got = x.packet(i, w); due = y.packet(i, w); break;
            case 21: got = x.octet(i, k); due = y.octet(i, k); break;
            case 22: got = x.state(e); due = y.state(e); break;
            case 23: got = x.number(e, w); due = y.number(e, w); break;
            case 24: got = x.feature(e, i, t, w); due = y.feature(e, i, t, w); break;
            case 25: case 26: got = x.count(e, k); due = y.count(e, k); break;
            case 27: got = x.got(e, i, k - 1); due = y.got(e, i, k - 1); break;
            case 28: got = x.seen(e, v); due = y.seen(e, v); break;
            default: got = x.sent(e, v); due = y.sent(e, v);
        }
        Check.due("seed " + seed + ", call " + call + ", of kind " + kind, got, due);
        return got == due;
    }
}
