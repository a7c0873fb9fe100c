import java.util.Random;

/** The edges of each call's arguments that are taken, and of what it keeps; what is refused is RefusedTest's. */
public final class CallEdgesTest {
    private static final int UNKNOWN = FlowTalk.UNKNOWN, OUTSIDE = FlowTalk.OUTSIDE, STATE = FlowTalk.STATE,
        ROOM = FlowTalk.ROOM;

    public static void main(String[] args) {
        statesThatCloseTakes();
        statesThatGiveTakes();
        statesThatWantTakes();
        sizesOfDatagrams();
        bytesOfDatagrams();
        twentyToSend();
        fortyKept();
        loseEach();
        holdAndRepeat();
        repeatIsACopy();
        alterEachBit();
        feedUpToTheTape();
        putEachLength();
        putInEachState();
        lowestBitsOfNumbers();
        codes();
        Check.finish();
    }

    private static FlowTalk in(int state, int end) {
        FlowTalk x = new FlowTalk(100L, 200L, 0);
        if (state == Wire.CLOSED) return x;
        if (state == Wire.LISTEN || state == Wire.RESPOND) {
            x.listen();
            if (state == Wire.LISTEN) return x;
            Wire.post(x, 1, Wire.packet(Wire.REQUEST, 100, 0, Wire.NONE));
            x.tick(1);
            Wire.silence(x);
            return x;
        }
        if (state == Wire.REQUESTED) {
            x.open();
            Wire.silence(x);
            return x;
        }
        x = state == Wire.PARTOPEN ? Wire.partOpen() : Wire.opened();
        if (state == Wire.ASKED || state == Wire.CLOSING) x.close(end);
        if (state == Wire.WAIT) {
            Wire.post(x, end, Wire.reset(x.number(end, 2) + 1, x.number(end, 0) - 1, 0));
            x.tick(1);
        }
        Wire.silence(x);
        return x;
    }

    /** Each state, at an end that can come to it. */
    private static final int[][] STATES = {{0, 0}, {0, 1}, {1, 1}, {2, 0}, {3, 1}, {4, 0}, {5, 0}, {5, 1}, {6, 1}, {7, 0}, {8, 0},
        {8, 1}};

    /** "LISTEN: CLOSED. REQUEST, RESPOND: a RESET with CODE 0 is sent, CLOSED. PARTOPEN, OPEN: .. STATE (any other)". */
    private static void statesThatCloseTakes() {
        for (int[] s : STATES) {
            FlowTalk x = in(s[0], s[1]);
            Check.due("in the state", x.state(s[1]), s[0]);
            int end = s[1], state = s[0], sent = x.count(end, 6);
            if (state == 3 || state == 4 || state == 5) x.give(end, 1, 1L);
            int then = state >= 1 && state <= 3 ? Wire.CLOSED : state == 4 || state == 5 ? (end == 0 ? Wire.CLOSING : Wire.ASKED) : STATE;
            String what = "close in " + state + " of end " + end;
            Check.due(what, x.close(end), then);
            Check.due(what + ": state", x.state(end), then == STATE ? state : then);
            int kind = state == 2 || state == 3 ? Wire.RESET : state == 4 || state == 5 ? (end == 0 ? Wire.CLOSE : Wire.ASK) : -1;
            Check.due(what + ": sent", x.count(end, 6) - sent, kind < 0 ? 0 : 1);
            Check.due(what + ": on the way", x.way(), kind < 0 ? 0 : 1);
            if (kind >= 0) Check.due(what + ": kind", x.octet(0, 0), kind);
            if (kind == Wire.RESET) Check.due(what + ": CODE", x.octet(0, 16) * 10 + x.count(end, 14), 0);
            if (kind == Wire.CLOSE || kind == Wire.ASK) Check.due(what + ": to send", x.count(end, 5), 0);
            Check.due(what + ": twice", x.close(end), STATE);
        }
    }

    /** "STATE (not REQUEST to OPEN)". */
    private static void statesThatGiveTakes() {
        for (int[] s : STATES) {
            FlowTalk x = in(s[0], s[1]);
            boolean takes = s[0] >= Wire.REQUESTED && s[0] <= Wire.OPEN;
            Check.due("give in " + s[0], x.give(s[1], 3, 1L), takes ? 1 : STATE);
            Check.due("to send in " + s[0], x.count(s[1], 5), takes ? 1 : 0);
        }
    }

    /** "STATE (CLOSED, WAIT)". */
    private static void statesThatWantTakes() {
        for (int[] s : STATES) {
            FlowTalk x = in(s[0], s[1]);
            boolean takes = s[0] != Wire.CLOSED && s[0] != Wire.WAIT;
            Check.due("want in " + s[0], x.want(s[1], 4, false, 1, 2), takes ? 1 : STATE);
            Check.due("its LIST in " + s[0], x.feature(s[1], 4, false, 2), takes ? 1 : 2);
            boolean opens = s[0] == Wire.CLOSED;
            Check.due("open, listen in " + s[0], s[1] == 0 ? x.open() : x.listen(), opens ? 1 : STATE);
        }
    }

    /** "A datagram to send of 0 .. 40 bytes". */
    private static void sizesOfDatagrams() {
        for (int size : new int[] {0, 1, 7, 8, 9, 39, 40}) {
            FlowTalk x = Wire.opened();
            Check.due("give of " + size, x.give(0, size, -1L), 1);
            x.tick(1);
            Check.due("bytes of the packet", x.packet(0, 2), 10 + size);
            x.tick(1);
            Check.due("bytes that are DELIVERED", x.got(1, 0, -1), size);
            Check.due("the last byte", x.got(1, 0, size - 1), size == 0 ? 0 : (255 + size - 1) & 255);
            Check.due("beyond it", x.got(1, 0, size), UNKNOWN);
        }
    }

    /** "byte i being the lowest 8 bits of v moved right by 8 times (i modulo 8), plus i". */
    private static void bytesOfDatagrams() {
        long[] values = {0, 1, -1, 255, 256, 0x8000000000000000L, 0x7FFFFFFFFFFFFFFFL, 0x0123456789ABCDEFL, 0xFEDCBA9876543210L};
        for (long v : values) {
            FlowTalk x = Wire.opened();
            x.give(1, 40, v);
            x.tick(2);
            for (int i = 0; i < 40; i++) {
                Check.due("byte " + i + " of " + v, x.got(0, 0, i), ((v >> 8 * (i % 8) & 255) + i) & 255);
            }
        }
    }

    /** "how many there are to send .. ROOM (20)"; room again when one went; and they go in their order. */
    private static void twentyToSend() {
        FlowTalk x = Wire.opened();
        for (int n = 1; n <= 20; n++) Check.due("give", x.give(0, n, n), n);
        Check.due("the 21st", x.give(0, 1, 1L), ROOM);
        x.tick(1);
        Check.due("three went", x.count(0, 5), 17);
        for (int n = 18; n <= 20; n++) Check.due("give", x.give(0, n + 3, n + 3), n);
        Check.due("the 21st", x.give(0, 1, 1L), ROOM);
        Check.due("of end 1 there is room", x.give(1, 1, 1L), 1);
        x.tick(20);
        Check.due("all came", x.count(1, 11), 23);
        for (int i = 0; i < 23; i++) {
            Check.due("datagram " + i + ", bytes", x.got(1, i, -1), i + 1);
            Check.due("datagram " + i + ", the first byte", x.got(1, i, 0), i + 1);
        }
    }

    /** "(0 the first of all; the latest 40 are kept)": 39, 40, 41 and more, of either end, over lives. */
    private static void fortyKept() {
        FlowTalk x = Wire.opened();
        for (int n = 1; n <= 90; n++) {
            x.give(1, n % 41, n);
            x.tick(1);
            x.tick(1);
            Check.due("DELIVERED", x.count(0, 11), n);
            Check.due("the latest", x.got(0, n - 1, -1), n % 41);
            Check.due("beyond it", x.got(0, n, -1), UNKNOWN);
            int oldest = Math.max(0, n - 40);
            Check.due("the oldest that is kept", x.got(0, oldest, -1), (oldest + 1) % 41);
            if (oldest != 40) Check.due("its first byte", x.got(0, oldest, 0), oldest + 1);
            Check.due("the one before it", x.got(0, oldest - 1, -1), UNKNOWN);
        }
    }

    /** "how many are left", of the first, the last and one between; others move up. */
    private static void loseEach() {
        for (int i = 0; i < 4; i++) {
            FlowTalk x = new FlowTalk(0L, 0L, 0);
            for (int n = 0; n < 4; n++) {
                x.feed(n, 0, 0, 0, 0);
                x.put(n % 2, 4 + n, false);
            }
            Check.due("lose " + i, x.lose(i), 3);
            for (int k = 0; k < 3; k++) {
                int n = k < i ? k : k + 1;
                Check.due("packet " + k, x.packet(k, 0) * 1000 + x.packet(k, 2) * 10 + x.octet(k, 3), n % 2 * 1000 + (4 + n) * 10 + n);
            }
            for (int left = 2; left >= 0; left--) Check.due("lose", x.lose(0), left);
            Check.due("none is left", x.lose(0), UNKNOWN);
        }
    }

    /** "so many ticks (0 .. 50) later". */
    private static void holdAndRepeat() {
        for (int n : new int[] {-1, 0, 1, 49, 50, 51}) {
            FlowTalk x = new FlowTalk(0L, 0L, 0);
            x.open();
            boolean right = n >= 0 && n <= 50;
            Check.due("hold " + n, x.hold(0, n), right ? 1 + n : OUTSIDE);
            Check.due("when", x.packet(0, 1), right ? 1 + n : 1);
            Check.due("repeat " + n, x.repeat(0, n), right ? 2 : OUTSIDE);
            Check.due("when, later than it", right ? x.packet(1, 1) : x.way(), right ? 1 + 2 * n : 1);
        }
        FlowTalk x = new FlowTalk(0L, 0L, 0);
        x.open();
        for (int i = 1; i <= 100; i++) Check.due("held again and again", x.hold(0, 50), 1 + 50 * i);
    }

    private static void repeatIsACopy() {
        FlowTalk x = new FlowTalk(0L, 0L, 0);
        for (int i = 0; i < 11; i++) x.feed(i, -i, i, -i, i);
        x.put(1, 220, false);
        x.repeat(0, 3);
        for (int k = 0; k < 220; k++) Check.due("byte " + k, x.octet(1, k), x.octet(0, k));
        x.alter(0, 219, 255);
        x.alter(1, 0, 255);
        Check.due("the first", x.octet(0, 219) * 1000 + x.octet(0, 0), (10 ^ 255) * 1000);
        Check.due("the second", x.octet(1, 219) * 1000 + x.octet(1, 0), 10 * 1000 + 255);
        x.tick(1);
        Check.due("the first one came alone", x.way() * 10 + x.count(1, 7), 11);
    }

    /** "Byte k of packet i is xored with the lowest byte of mask: what it is then." */
    private static void alterEachBit() {
        FlowTalk x = new FlowTalk(0L, 0L, 0);
        x.feed(0x5AFF0000, 0, 0, 0, 7);
        x.put(0, 20, false);
        int[] masks = {0, 1, 128, 255, 256, -1, -256, 0x1FF, Integer.MIN_VALUE, Integer.MAX_VALUE};
        int due = 0x5A, last = 7;
        for (int mask : masks) {
            due ^= mask & 255;
            last ^= mask & 255;
            Check.due("the first byte by " + mask, x.alter(0, 0, mask), due);
            Check.due("the last byte by " + mask, x.alter(0, 19, mask), last);
            Check.due("as it is then", x.octet(0, 0) * 256 + x.octet(0, 19), due * 256 + last);
            Check.due("its neighbour", x.octet(0, 1) * 256 + x.octet(0, 18), 255 * 256);
        }
        Check.due("one beyond", x.alter(0, 20, 1), UNKNOWN);
        x.put(0, 0, true);
        Check.due("a packet of no bytes", x.alter(1, 0, 1), UNKNOWN);
        Check.due("a packet of no bytes", x.octet(1, 0), UNKNOWN);
    }

    /** "Twenty bytes come behind the tape, each number's highest one first .. ROOM: there would be more than 220." */
    private static void feedUpToTheTape() {
        FlowTalk x = new FlowTalk(0L, 0L, 0);
        Random random = new Random(5);
        int[] fed = new int[55];
        for (int i = 0; i < 55; i++) fed[i] = random.nextInt();
        for (int i = 0; i < 11; i++) {
            int k = 5 * i;
            Check.due("feed", x.feed(fed[k], fed[k + 1], fed[k + 2], fed[k + 3], fed[k + 4]), 20 * i + 20);
        }
        Check.due("220 and 20", x.feed(1, 2, 3, 4, 5), ROOM);
        Check.due("put", x.put(0, 220, false), 1);
        for (int k = 0; k < 220; k++) Check.due("byte " + k, x.octet(0, k), fed[k / 4] >>> 24 - 8 * (k % 4) & 255);
        Check.due("the tape is empty then", x.feed(1, 2, 3, 4, 5), 20);
        Check.due("its first byte is the new one", x.put(0, 4, false) * 1000 + x.octet(1, 3), 2001);
    }

    /** "The tape, cut behind its first n bytes .. its CHECK is made right, if it has four bytes or more". */
    private static void putEachLength() {
        for (int n = -1; n <= 41; n++) {
            for (int right = 0; right < 2; right++) {
                FlowTalk x = new FlowTalk(0L, 0L, 3);
                x.tick(5);
                x.feed(0x01020304, 0x05060708, 9, 10, 11);
                x.feed(12, 13, 14, 15, 16);
                boolean taken = n >= 0 && n <= 40;
                Check.due("put " + n, x.put(1, n, right == 1), taken ? 1 : OUTSIDE);
                if (!taken) continue;
                Check.due("to, when", x.packet(0, 0) * 100 + x.packet(0, 1), 106);
                Check.due("bytes", x.packet(0, 2), n);
                boolean made = right == 1 && n >= 4;
                for (int k = 0; k < Math.min(n, 8); k++) {
                    if (!made || (k != 2 && k != 3)) Check.due("byte " + k + " of " + n, x.octet(0, k), k + 1);
                }
                if (made) Check.due("CHECK of " + n, x.octet(0, 2) * 256 + x.octet(0, 3), Model.check(Wire.bytes(x, 0)));
                Check.due("the tape is empty", x.put(1, 1, false), OUTSIDE);
                Check.due("the tape is empty", x.feed(0, 0, 0, 0, 0), 20);
            }
        }
    }

    private static void putInEachState() {
        for (int[] s : STATES) {
            FlowTalk x = in(s[0], s[1]);
            Check.due("put in " + s[0], x.put(s[1], 0, false), 1);
            int come = x.count(s[1], 7);
            x.tick(1);
            Check.due("it comes, and is BAD", (x.count(s[1], 7) - come) * 10 + x.count(s[1], 8), 11);
            Check.due("nothing else", x.state(s[1]), s[0]);
        }
    }

    /** Numbers are asked for by their lowest 48 bits. */
    private static void lowestBitsOfNumbers() {
        FlowTalk x = new FlowTalk(-3L, -2L, 0);
        x.listen();
        x.open();
        x.tick(8);
        for (long turn : new long[] {0, 1L << 48, -(1L << 48), 5L << 48, Long.MIN_VALUE}) {
            Check.due("seen -3", x.seen(1, turn - 3), 1);
            Check.due("seen -1", x.seen(1, turn - 1), 1);
            Check.due("seen 0", x.seen(1, turn), -1);
            Check.due("seen -4", x.seen(1, turn - 4), 0);
            Check.due("sent -3", x.sent(0, turn - 3), 0);
            Check.due("sent -4", x.sent(0, turn - 4), -1);
            Check.due("sent 0", x.sent(0, turn), -1);
        }
        Check.due("NEXT", x.number(0, 0), 0);
        Check.due("HIGH", x.number(1, 2), (1L << 48) - 1);
    }

    /** "the CODE of the RESET it sent latest (14; -1 none), or heard (by which it became CLOSED or WAIT; 15; -1)". */
    private static void codes() {
        for (int code : new int[] {0, 1, 5, 6, 127, 128, 255}) {
            FlowTalk x = Wire.opened();
            Check.due("none", x.count(1, 14) * 10 + x.count(1, 15), -11);
            Wire.post(x, 1, Wire.reset(104, 201, code));
            Wire.post(x, 1, Wire.reset(105, 201, 77));
            x.tick(1);
            Check.due("heard", x.count(1, 15), code);
            Check.due("none is sent", x.count(1, 14), -1);
            x.tick(12);
            x.listen();
            Check.due("it stays when it listens", x.count(1, 15), code);
            x = in(Wire.REQUESTED, 0);
            Wire.post(x, 0, Wire.reset(9, 100, code));
            x.tick(1);
            Check.due("heard in REQUEST", x.count(0, 15) * 10 + x.state(0), code * 10);
        }
        FlowTalk x = in(Wire.REQUESTED, 0);
        Wire.post(x, 0, Wire.packet(Wire.ACK, 9, 100, Wire.NONE));
        x.tick(1);
        Check.due("CODE 2", x.count(0, 14), 2);
        x.close(0);
        Check.due("the latest one: CODE 0", x.count(0, 14), 0);
        Wire.silence(x);
        Wire.post(x, 0, Wire.packet(Wire.ACK, 9, 100, Wire.NONE));
        x.tick(1);
        Check.due("the latest one: CODE 1", x.count(0, 14), 1);
    }
}
