import java.util.ArrayList;
import java.util.Arrays;
import java.util.List;
import java.util.Random;

/**
 * "when a packet of its own, in which it sent a VECTOR, is told to be got": however long ago that packet went.
 *
 * What can be told ends 2814 behind NEXT: V is 255 at most, so an ACK is 255 behind NEXT at most, and a VECTOR of
 * 40 rows of 64 numbers ends 2559 below that.
 */
public final class BaseLateTest {
    private static final int DEEPEST = 2814, NOT_GOT = 192;
    private static final long TOP = (1L << 48) - 1;

    public static void main(String[] args) {
        deepest();
        rowByRow();
        dataLongAgo();
        otherLife();
        int[] most = new int[2];
        for (int seed = 1; seed <= 60; seed++) anyRun(seed, most);
        Check.holds("some run tells of numbers far behind NEXT: " + Arrays.toString(most), most[0] > 100 && most[1] > 2000);
        Check.finish();
    }

    private static void comes(FlowTalk x, int end, int... bytes) {
        Wire.post(x, end, bytes);
        x.tick(1);
    }

    private static long next(FlowTalk x, int end) {
        return x.number(end, 0);
    }

    private static int[] heard(FlowTalk x, int end, int kind, long ack, int... options) {
        return Wire.packet(kind, (x.number(end, 2) + 1) & TOP, ack & TOP, options);
    }

    /**
     * One end is OPEN with a WINDOW of 255, the other CLOSED with numbers that never fit. It CHANGES its VECTORS, which
     * nobody confirms, so that it sends an ACK with a VECTOR every 4 ticks.
     */
    private static FlowTalk alone(int end, long first, long others) {
        FlowTalk x = new FlowTalk(end == 0 ? first : others - 5000, end == 1 ? first : others - 5000, 0);
        begins(x, end, others);
        return x;
    }

    private static void begins(FlowTalk x, int end, long others) {
        if (end == 0) {
            x.open();
            comes(x, 0, Wire.packet(Wire.RESPONSE, others & TOP, next(x, 0) - 1 & TOP, Wire.NONE));
        } else {
            x.listen();
            comes(x, 1, Wire.packet(Wire.REQUEST, others & TOP, 0, Wire.NONE));
        }
        x.want(end, 1, true, 1, 255);
        // FIRST had no VECTOR, so BASE stays
        comes(x, end, heard(x, end, Wire.ACK, x.number(end, 1), 5, 4, 1, 255));
        Check.due("V of end " + end, x.feature(end, 1, true, 0) * 10 + x.state(end), 2555);
        Check.due("BASE is MET", x.number(end, 4), x.number(end, 3));
        x.want(end, 3, true, 1, 1);
        x.tick(1);
    }

    /** Packets without a VECTOR: an ANSWER for each SYNC, each of them making HIGH higher by 1. */
    private static void answers(FlowTalk x, int end, int n) {
        for (int left = n; left > 0; left -= 32) {
            Wire.silence(x);
            long high = x.number(end, 2), ack = next(x, end) - 1;
            for (int i = 1; i <= Math.min(32, left); i++) {
                Wire.post(x, end, Wire.packet(Wire.SYNC, high + i & TOP, ack & TOP, Wire.NONE));
            }
            x.tick(1);
        }
    }

    private static void goOnTo(FlowTalk x, int end, long next) {
        for (int i = 0; i < 400 && (next - next(x, end) & TOP) > 13; i++) x.tick(50);
        for (int i = 0; i < 60 && next(x, end) != next; i++) x.tick(1);
        Check.due("NEXT of end " + end, next(x, end), next);
    }

    /** 40 rows: the last one got, all others not got. */
    private static int[] lastOfForty(int size) {
        int[] o = new int[42];
        Arrays.fill(o, NOT_GOT + 63);
        o[0] = 6;
        o[1] = 42;
        o[41] = size - 1;
        return o;
    }

    /** The last number that can be told, and one beyond; wherever numbers begin. */
    private static void deepest() {
        for (int end = 0; end < 2; end++) {
            for (long first : new long[] {1000, TOP - 2000, TOP - 5, (1L << 47) - 1500}) {
                long met = first == 1000 ? 5000 : TOP - 30, base = met + 2 & TOP;
                deep(end, first, met, DEEPEST - 1, 63, base);
                deep(end, first, met, DEEPEST - 1, 62, met);
                deep(end, first, met, DEEPEST, 64, base);
                deep(end, first, met, DEEPEST, 63, met);
                deep(end, first, met, DEEPEST + 1, 64, met);
            }
        }
    }

    /** A VECTOR went in a packet so far behind NEXT; an ACK as old as can be tells of 40 rows, the last one got. */
    private static void deep(int end, long first, long met, int behind, int size, long base) {
        FlowTalk x = alone(end, first, met);
        long vector = next(x, end) - 1;
        // no VECTOR goes in the numbers that the last row and ACK tell besides
        answers(x, end, 64);
        goOnTo(x, end, vector + behind - 255 & TOP);
        answers(x, end, 1);
        goOnTo(x, end, vector + behind & TOP);
        int out = x.count(end, 9);
        Wire.silence(x);
        comes(x, end, heard(x, end, Wire.ACK, next(x, end) - 255, lastOfForty(size)));
        String what = "end " + end + " from " + first + ", " + behind + " behind NEXT, a last row of " + size;
        Check.due(what + ": heard", (x.count(end, 9) - out) * 10 + x.state(end), 5);
        Check.due(what + ": BASE", x.number(end, 4), base);
    }

    /** Each of many old VECTORS has the HIGH of its own time: told from the oldest on, BASE climbs step by step. */
    private static void rowByRow() {
        FlowTalk x = alone(0, 1000, 5000);
        long oldest = next(x, 0) - 1;
        for (int i = 0; i < 40; i++) {
            // HIGH is 5002 + i when number oldest + 1 + 2 i (an ANSWER) and oldest + 2 + 2 i (an ACK) go
            answers(x, 0, 1);
            long before = next(x, 0);
            for (int k = 0; k < 8 && next(x, 0) == before; k++) x.tick(1);
        }
        Check.due("two a round", next(x, 0), oldest + 81);
        goOnTo(x, 0, oldest + 1000);
        for (int i = 0; i < 40; i++) {
            tellOne(x, oldest + 1 + 2 * i);
            Check.due("ANSWER " + i + ": BASE", x.number(0, 4), i == 0 ? 5000 : 5002 + i);
            tellOne(x, oldest + 2 + 2 * i);
            Check.due("ACK " + i + ": BASE", x.number(0, 4), 5003 + i);
        }
        tellOne(x, oldest);
        Check.due("the oldest one: not BEFORE", x.number(0, 4), 5042);
    }

    /** From NEXT - 1, which is told by ACK and was an ANSWER, downwards: not got, and n. */
    private static void tellOne(FlowTalk x, long n) {
        answers(x, 0, 1);
        List<Integer> rows = new ArrayList<>();
        long ack = next(x, 0) - 1;
        for (long left = ack - n; left > 0; left -= 64) rows.add(NOT_GOT + (int) Math.min(64, left) - 1);
        rows.add(0);
        int[] o = new int[2 + rows.size()];
        o[0] = 6;
        o[1] = o.length;
        for (int i = 0; i < rows.size(); i++) o[2 + i] = rows.get(i);
        comes(x, 0, heard(x, 0, Wire.ACK, ack, o));
    }

    /** A BOTH of long ago moves BASE; for SENT and what is under way it is too late. */
    private static void dataLongAgo() {
        FlowTalk x = alone(0, 1000, 5000);
        x.tick(1);
        x.want(0, 3, true, 1, 1);
        x.give(0, 1, 1L);
        long both = next(x, 0);
        x.tick(1);
        Check.due("a BOTH goes, UNDER WAY", x.sent(0, both) * 10 + x.count(0, 0), 11);
        answers(x, 0, 3);
        goOnTo(x, 0, both + 300);
        Check.due("it is in SENT no more", x.sent(0, both), -1);
        int cwnd = x.count(0, 1), edge = x.count(0, 2), rto = x.count(0, 3);
        long recover = x.number(0, 5);
        tellOne(x, both);
        Check.due("BASE", x.number(0, 4), 5002);
        Check.due("SENT", x.sent(0, both), -1);
        Check.due("CWND, EDGE, RTO", x.count(0, 1) * 10000 + x.count(0, 2) * 100 + x.count(0, 3), cwnd * 10000 + edge * 100 + rto);
        Check.due("PIPE, GROWN", x.count(0, 0) * 100 + x.count(0, 4), 0);
        Check.due("RECOVER", x.number(0, 5), recover);
    }

    /** "all of it as at first (.. records ..)": the VECTORS of an earlier life are told in vain. */
    private static void otherLife() {
        for (int end = 0; end < 2; end++) {
            for (int packets : new int[] {3, 300, 4090, 4094, 4096, 4100}) {
                FlowTalk x = alone(end, 1000, 5000);
                goOnTo(x, end, 1000 + packets);
                x.close(end);
                x.tick(50);
                Check.due("CLOSED", x.state(end), 0);
                Wire.silence(x);
                // what it got in the life before was higher than what it meets now, so that each VECTOR would show
                begins(x, end, 3000);
                long first = x.number(end, 1);
                answers(x, end, 1);
                int[] o = new int[42];
                Arrays.fill(o, 63);
                o[0] = 6;
                o[1] = 42;
                long own = next(x, end) - first - 1;
                // all since FIRST is not got: a row of own numbers first, then all below FIRST got
                o[2] = NOT_GOT + (int) own;
                comes(x, end, heard(x, end, Wire.ACK, next(x, end) - 1, o));
                Check.due("end " + end + " behind " + packets + " packets: BASE", x.number(end, 4), 3000);
            }
        }
    }

    /** Random runs of an end that nobody answers, held against Model. */
    private static void anyRun(int seed, int[] most) {
        Random random = new Random(seed);
        int end = random.nextInt(2);
        long first = random.nextBoolean() ? 1000 : TOP - random.nextInt(3000);
        FlowTalk x = new FlowTalk(end == 0 ? first : 0, end == 1 ? first : 0, 0);
        Model y = new Model(end == 0 ? first : 0, end == 1 ? first : 0, 0);
        long others = random.nextBoolean() ? 500_000 : 1L << 47;
        both(x, y, end == 0 ? "open" : "listen", 0);
        if (end == 0) put(x, y, 0, Wire.packet(Wire.RESPONSE, others, next(x, 0) - 1 & TOP, Wire.NONE));
        else put(x, y, 1, Wire.packet(Wire.REQUEST, others, 0, Wire.NONE));
        both(x, y, "tick", 1);
        x.want(end, 1, true, 1, 255);
        y.want(end, 1, true, 1, 255);
        put(x, y, end, heard(x, end, Wire.ACK, next(x, end) - 1, 5, 4, 1, 255));
        for (int i = 0; i < 200; i++) {
            both(x, y, "tick", random.nextInt(3) == 0 ? 1 + random.nextInt(50) : 1);
            x.want(end, 3, true, 1, 1);
            y.want(end, 3, true, 1, 1);
            long base = y.number(end, 4);
            if (random.nextInt(4) == 0) {
                x.give(end, 3, i);
                y.give(end, 3, i);
            }
            for (int k = random.nextInt(3); k > 0; k--) both(x, y, "tick", 50);
            if (random.nextInt(3) > 0) put(x, y, end, heard(x, end, Wire.SYNC, next(x, end) - 1));
            both(x, y, "tick", 1);
            int back = 1 + random.nextInt(random.nextBoolean() ? 3 : 256);
            int[] o = rows(random);
            put(x, y, end, heard(x, end, Wire.ACK, next(x, end) - back, o));
            both(x, y, "tick", 1);
            if (y.number(end, 4) != base) most[0]++;
            if (y.number(end, 4) != base && o.length > 2) most[1] = Math.max(most[1], back + depth(o));
            String fault = differ(x, y, end);
            Check.holds("seed " + seed + ", round " + i + ": " + fault, fault == null);
            if (fault != null || y.state(end) != 5) return;
        }
    }

    /** A VECTOR of rows not got and a few got at its end. */
    private static int[] rows(Random random) {
        int n = 1 + random.nextInt(40);
        int[] o = new int[2 + n];
        o[0] = 6;
        o[1] = 2 + n;
        for (int i = 0; i < n; i++) o[2 + i] = NOT_GOT + (random.nextInt(4) > 0 ? 63 : random.nextInt(64));
        o[1 + n] = random.nextInt(4);
        return o;
    }

    /** How far below ACK it tells. */
    private static int depth(int[] o) {
        int all = 0;
        for (int i = 2; i < o.length; i++) all += o[i] % 64 + 1;
        return all - 1;
    }

    private static void both(FlowTalk x, Model y, String call, int n) {
        long a = call.equals("open") ? x.open() : call.equals("listen") ? x.listen() : x.tick(n);
        long b = call.equals("open") ? y.open() : call.equals("listen") ? y.listen() : y.tick(n);
        Check.due(call, a, b);
    }

    private static void put(FlowTalk x, Model y, int end, int[] bytes) {
        Wire.feed(x, bytes);
        for (int i = 0; i < bytes.length; i += 20) {
            int[] w = new int[5];
            for (int k = 0; k < 20; k++) w[k / 4] = w[k / 4] << 8 | (i + k < bytes.length ? bytes[i + k] : 0);
            y.feed(w[0], w[1], w[2], w[3], w[4]);
        }
        Check.due("put", x.put(end, bytes.length, true), y.put(end, bytes.length, true));
    }

    private static String differ(FlowTalk x, Model y, int end) {
        for (int w = 0; w < 6; w++) {
            if (x.number(end, w) != y.number(end, w)) return "number " + w + " is " + x.number(end, w) + ", model " + y.number(end, w);
        }
        for (int w = 0; w < 16; w++) {
            if (x.count(end, w) != y.count(end, w)) return "count " + w + " is " + x.count(end, w) + ", model " + y.count(end, w);
        }
        if (x.way() != y.way()) return "way is " + x.way() + ", model " + y.way();
        for (int d = 0; d < 258; d++) {
            long n = y.number(end, 0) - d;
            if (x.sent(end, n) != y.sent(end, n)) return "sent " + d + " behind NEXT is " + x.sent(end, n) + ", model " + y.sent(end, n);
        }
        return null;
    }
}
