import java.util.Arrays;

/** Packets as bytes, put on the way and read from it; and objects in states that tests begin with. */
final class Wire {
    static final int REQUEST = 0, RESPONSE = 1, DATA = 2, ACK = 3, BOTH = 4, ASK = 5, CLOSE = 6, RESET = 7, SYNC = 8,
        ANSWER = 9;
    static final int CLOSED = 0, LISTEN = 1, REQUESTED = 2, RESPOND = 3, PARTOPEN = 4, OPEN = 5, ASKED = 6, CLOSING = 7,
        WAIT = 8;
    static final int[] NONE = {};

    private Wire() {
    }

    /** A packet of a kind, without CODE; its CHECK is left for put. */
    static int[] packet(int kind, long number, long ack, int[] options, int... data) {
        boolean hasAck = kind != REQUEST && kind != DATA;
        int[] head = new int[hasAck ? 16 : 10];
        head[0] = kind;
        head[1] = options.length;
        for (int i = 0; i < 6; i++) {
            head[4 + i] = (int) (number >> 8 * (5 - i)) & 255;
            if (hasAck) head[10 + i] = (int) (ack >> 8 * (5 - i)) & 255;
        }
        return join(head, options, data);
    }

    static int[] reset(long number, long ack, int code, int... options) {
        int[] p = packet(RESET, number, ack, NONE, code);
        p[1] = options.length;
        return join(p, options);
    }

    static int[] join(int[]... parts) {
        int[] all = {};
        for (int[] part : parts) {
            int at = all.length;
            all = Arrays.copyOf(all, at + part.length);
            System.arraycopy(part, 0, all, at, part.length);
        }
        return all;
    }

    /** Fed and put with a right CHECK: what put answered. */
    static int post(FlowTalk x, int end, int... bytes) {
        feed(x, bytes);
        return x.put(end, bytes.length, true);
    }

    static void feed(FlowTalk x, int... bytes) {
        for (int i = 0; i < bytes.length; i += 20) {
            int[] w = new int[5];
            for (int k = 0; k < 20; k++) w[k / 4] = w[k / 4] << 8 | (i + k < bytes.length ? bytes[i + k] : 0);
            x.feed(w[0], w[1], w[2], w[3], w[4]);
        }
    }

    static int[] bytes(FlowTalk x, int i) {
        int[] b = new int[Math.max(0, x.packet(i, 2))];
        for (int k = 0; k < b.length; k++) b[k] = x.octet(i, k);
        return b;
    }

    static long number(int[] b) {
        return six(b, 4);
    }

    static long ack(int[] b) {
        return six(b, 10);
    }

    private static long six(int[] b, int at) {
        long n = 0;
        for (int i = 0; i < 6 && at + i < b.length; i++) n = n << 8 | b[at + i];
        return n;
    }

    static int[] options(int[] b) {
        int at = b[0] == REQUEST || b[0] == DATA ? 10 : b[0] == RESET ? 17 : 16;
        return Arrays.copyOfRange(b, at, at + b[1]);
    }

    /** End 0 is PARTOPEN since time 2, end 1 OPEN; the time is 3, numbers begin with 100 and 200. */
    static FlowTalk partOpen() {
        FlowTalk x = new FlowTalk(100L, 200L, 0);
        x.listen();
        x.open();
        x.tick(3);
        return x;
    }

    /**
     * Both OPEN at time 8, nothing on the way. End 0 sent 100 REQUEST, 101 ACK, 102 SYNC;
     * end 1 sent 200 RESPONSE, 201 ANSWER.
     */
    static FlowTalk opened() {
        FlowTalk x = partOpen();
        x.tick(5);
        return x;
    }

    /** Packets on the way are all lost. */
    static void silence(FlowTalk x) {
        for (int i = 0; i < 60 && x.way() > 0; i++) x.lose(0);
    }
}
