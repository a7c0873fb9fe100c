import java.util.Arrays;

/** The edges of parts 3 and 4: windows of numbers and ACKS, what is GOT and SENT, VECTORS, each kind in each state. */
public final class EndEdgesTest {
    private static final int OUT = 9, AGAIN = 10, DELIVERED = 11;

    public static void main(String[] args) {
        numbersThatFit();
        notBeforeMet();
        acksThatFit();
        notBeforeFirst();
        acksInRequest();
        ackBeforeAny();
        gotBehindHigh();
        sentBehindNext();
        vectorToMet();
        vectorToBase();
        vectorBehindHigh();
        vectorRows();
        vectorOfFortyRows();
        baseGoesUpOnly();
        kindsByState();
        outByState();
        againByState();
        oneSyncATick();
        Check.finish();
    }

    private static void comes(FlowTalk x, int end, int... bytes) {
        Wire.post(x, end, bytes);
        x.tick(1);
    }

    /** The end has WINDOW w of the other, and HIGH far beyond MET. */
    private static FlowTalk far(int end, int w) {
        FlowTalk x = Wire.opened();
        for (int i = 0; i < 2; i++) comes(x, end, Wire.packet(Wire.ANSWER, x.number(end, 2) + 60, x.number(end, 0) - 1, Wire.NONE));
        comes(x, end, Wire.packet(Wire.ACK, x.number(end, 2) + 1, x.number(end, 0) - 1, new int[] {2, 4, 1, w}));
        Wire.silence(x);
        Check.due("W", x.feature(end, 1, false, 0), w);
        return x;
    }

    /** "and n less (HIGH + 1 less W / 4) is, around, below W": the first and the last one that fit, and one beyond. */
    private static void numbersThatFit() {
        for (int w : new int[] {16, 17, 18, 19, 20, 99, 100, 101, 254, 255}) {
            int[] steps = {-w / 4, 1 - w / 4, 2, w - w / 4, w - w / 4 + 1};
            boolean[] fit = {false, true, true, true, false};
            for (int i = 0; i < steps.length; i++) {
                for (int end = 0; end < 2; end++) {
                    FlowTalk x = far(end, w);
                    long high = x.number(end, 2);
                    comes(x, end, Wire.packet(Wire.DATA, high + steps[i], 0, Wire.NONE));
                    String what = "W " + w + ", HIGH + " + steps[i] + " to end " + end;
                    Check.due(what + ": OUT", x.count(end, OUT), fit[i] ? 0 : 1);
                    Check.due(what + ": DELIVERED", x.count(end, DELIVERED), fit[i] ? 1 : 0);
                    Check.due(what + ": HIGH", x.number(end, 2), fit[i] && steps[i] > 0 ? high + steps[i] : high);
                    Check.due(what + ": GOT", x.seen(end, high + steps[i]), fit[i] ? 1 : steps[i] > 0 ? -1 : 0);
                    if (!fit[i]) Check.due("a SYNC", x.octet(0, 0) * 1000L + Wire.ack(Wire.bytes(x, 0)), 8000 + high + steps[i]);
                }
            }
        }
    }

    /** "A number n FITS if it is not BEFORE MET". */
    private static void notBeforeMet() {
        for (int end = 0; end < 2; end++) {
            long met = end == 0 ? 200 : 100;
            FlowTalk x = Wire.opened();
            comes(x, end, Wire.packet(Wire.DATA, met, 0, Wire.NONE));
            Check.due("MET is AGAIN, not OUT", x.count(end, AGAIN) * 10 + x.count(end, OUT), 10);
            comes(x, end, Wire.packet(Wire.DATA, met - 1, 0, Wire.NONE));
            Check.due("MET - 1 is OUT", x.count(end, AGAIN) * 10 + x.count(end, OUT), 11);
            comes(x, end, Wire.packet(Wire.DATA, met + 3, 0, Wire.NONE));
            Check.due("one more is neither", x.count(end, AGAIN) * 10 + x.count(end, OUT), 11);
        }
        // a number behind MET that was never got
        FlowTalk x = new FlowTalk(100L, 200L, 0);
        x.listen();
        comes(x, 1, Wire.packet(Wire.REQUEST, 100, 0, Wire.NONE));
        comes(x, 1, Wire.packet(Wire.DATA, 102, 0, Wire.NONE));
        comes(x, 1, Wire.packet(Wire.DATA, 101, 0, Wire.NONE));
        Check.due("MET + 1 fits", x.count(1, DELIVERED), 2);
    }

    /** So many packets are sent by an end, 50 in a tick, each an ANSWER. */
    private static void send(FlowTalk x, int end, int n) {
        for (int left = n; left > 0; left -= 50) {
            for (int i = 0; i < Math.min(50, left); i++) {
                Wire.post(x, end, Wire.packet(Wire.SYNC, x.number(end, 2) + 1 + i, x.number(end, 0) - 1, Wire.NONE));
            }
            x.tick(1);
            Wire.silence(x);
        }
    }

    /** "and NEXT - 1 less a is, around, below V". */
    private static void acksThatFit() {
        for (int v : new int[] {16, 17, 99, 100, 101, 254, 255}) {
            long[] behind = {v + 1, v, v - 1, 2, 1, 0};
            boolean[] fit = {false, true, true, true, true, false};
            for (int end = 0; end < 2; end++) {
                FlowTalk x = Wire.opened();
                x.want(end, 1, true, 1, v);
                comes(x, end, Wire.packet(Wire.ACK, x.number(end, 2) + 1, x.number(end, 0) - 1, new int[] {5, 4, 1, v}));
                Wire.silence(x);
                Check.due("V", x.feature(end, 1, true, 0) * 10 + x.count(end, 12), v * 10);
                send(x, end, 300);
                for (int i = 0; i < behind.length; i++) {
                    long high = x.number(end, 2);
                    int out = x.count(end, OUT);
                    comes(x, end, Wire.packet(Wire.ACK, high + 1, x.number(end, 0) - behind[i], Wire.NONE));
                    String what = "V " + v + ", ACK NEXT - " + behind[i] + " to end " + end;
                    Check.due(what + ": OUT", x.count(end, OUT) - out, fit[i] ? 0 : 1);
                    Check.due(what + ": HIGH", x.number(end, 2) - high, fit[i] ? 1 : 0);
                    Check.due(what + ": a SYNC", x.way(), fit[i] ? 0 : 1);
                    Wire.silence(x);
                }
            }
        }
    }

    /** "An ACK a fits if it is not BEFORE FIRST". */
    private static void notBeforeFirst() {
        for (int end = 0; end < 2; end++) {
            long first = end == 0 ? 100 : 200;
            for (int off = -1; off <= 1; off++) {
                FlowTalk x = Wire.opened();
                comes(x, end, Wire.packet(Wire.ACK, x.number(end, 2) + 1, first + off, Wire.NONE));
                Check.due("ACK FIRST + " + off, x.count(end, OUT), off < 0 ? 1 : 0);
            }
        }
        // FIRST of a second life: what was sent in the first one does not fit
        FlowTalk x = new FlowTalk(100L, 200L, 0);
        x.open();
        x.close(0);
        x.open();
        Wire.silence(x);
        Check.due("FIRST", x.number(0, 1), 102);
        comes(x, 0, Wire.packet(Wire.RESPONSE, 200, 101, Wire.NONE));
        Check.due("of the life before", x.state(0) * 10 + x.count(0, 14), 22);
        comes(x, 0, Wire.packet(Wire.RESPONSE, 200, 102, Wire.NONE));
        Check.due("of this one", x.state(0), Wire.PARTOPEN);
    }

    /** "REQUEST: a RESPONSE whose ACK fits", "A RESET whose ACK fits: CLOSED". */
    private static void acksInRequest() {
        for (int kind : new int[] {Wire.RESPONSE, Wire.RESET}) {
            for (int off = -2; off <= 3; off++) {
                FlowTalk x = new FlowTalk(100L, 200L, 0);
                x.open();
                x.tick(4);
                Wire.silence(x);
                // 100 and 101 are sent
                comes(x, 0, kind == Wire.RESET ? Wire.reset(9, 100 + off, 6) : Wire.packet(kind, 9, 100 + off, Wire.NONE));
                boolean fits = off == 0 || off == 1;
                int then = kind == Wire.RESET ? Wire.CLOSED : Wire.PARTOPEN;
                Check.due("kind " + kind + ", ACK FIRST + " + off, x.state(0), fits ? then : Wire.REQUESTED);
                int sent = kind == Wire.RESET ? -1 : fits ? Wire.ACK : Wire.RESET;
                Check.due("what is sent", x.way() == 0 ? -1 : x.octet(0, 0), sent);
                Check.due("CODE heard", x.count(0, 15), kind == Wire.RESET && fits ? 6 : -1);
                Check.due("CODE sent", x.count(0, 14), kind == Wire.RESET || fits ? -1 : 2);
                Check.due("it is not OUT", x.count(0, OUT), 0);
            }
        }
    }

    /** "Its ACK is HIGH (0 before any)". */
    private static void ackBeforeAny() {
        FlowTalk x = new FlowTalk(100L, 200L, 0);
        x.open();
        x.close(0);
        Check.due("close in REQUEST", Wire.ack(Wire.bytes(x, 1)), 0);
        x = Wire.opened();
        comes(x, 1, Wire.packet(Wire.CLOSE, 103, 201, Wire.NONE));
        Wire.silence(x);
        comes(x, 1, Wire.packet(Wire.ACK, 104, 201, Wire.NONE));
        Check.due("CLOSED: HIGH still", Wire.ack(Wire.bytes(x, 0)), 103);
        Wire.silence(x);
        x.listen();
        comes(x, 1, Wire.packet(Wire.ACK, 104, 201, Wire.NONE));
        Check.due("LISTEN: 0 again", Wire.ack(Wire.bytes(x, 0)), 0);
    }

    /** "GOT are the numbers of packets that were got, as far as they are less than 256 behind HIGH". */
    private static void gotBehindHigh() {
        for (int end = 0; end < 2; end++) {
            FlowTalk x = Wire.opened();
            long met = x.number(end, 3);
            for (long n : new long[] {60, 120, 180, 240, 255}) {
                comes(x, end, Wire.packet(Wire.ANSWER, met + n, x.number(end, 0) - 1, Wire.NONE));
            }
            Check.due("HIGH", x.number(end, 2), met + 255);
            Check.due("255 behind, got", x.seen(end, met), 1);
            Check.due("254 behind, got", x.seen(end, met + 1), 1);
            Check.due("256 behind", x.seen(end, met - 1), -1);
            Check.due("HIGH", x.seen(end, met + 255), 1);
            Check.due("AFTER HIGH", x.seen(end, met + 256), -1);
            Check.due("between, not got", x.seen(end, met + 59), 0);
            comes(x, end, Wire.packet(Wire.ANSWER, met + 256, x.number(end, 0) - 1, Wire.NONE));
            Check.due("256 behind now", x.seen(end, met), -1);
            Check.due("255 behind now", x.seen(end, met + 1), 1);
            comes(x, end, Wire.packet(Wire.ANSWER, met + 320, x.number(end, 0) - 1, Wire.NONE));
            Check.due("260 behind", x.seen(end, met + 60), -1);
            Check.due("the place of 60 is that of 316 now", x.seen(end, met + 316), 0);
            Check.due("200 behind", x.seen(end, met + 120), 1);
            // the places of 256, 257 and 258 were those of 0, 1 and 2 before
            x = Wire.opened();
            for (long n : new long[] {3, 60, 120, 180, 240, 255}) {
                comes(x, end, Wire.packet(Wire.ANSWER, met + n, x.number(end, 0) - 1, Wire.NONE));
            }
            comes(x, end, Wire.packet(Wire.ANSWER, met + 259, x.number(end, 0) - 1, Wire.NONE));
            for (int n = 256; n <= 258; n++) Check.due("not got, " + n, x.seen(end, met + n), 0);
            Check.due("got, 259", x.seen(end, met + 259), 1);
            Check.due("256 behind", x.seen(end, met + 3), -1);
            comes(x, end, Wire.packet(Wire.ANSWER, met + 320, x.number(end, 0) - 1, Wire.NONE));
            Check.due("half the numbers away", x.seen(end, met + 320 - (1L << 47)), -1);
            Check.due("half the numbers away, the other way", x.seen(end, met + 321 + (1L << 47)), -1);
        }
    }

    /** "SENT: of its own numbers less than 256 behind NEXT". */
    private static void sentBehindNext() {
        for (int end = 0; end < 2; end++) {
            FlowTalk x = Wire.opened();
            long first = x.number(end, 1), data = x.number(end, 0);
            x.give(end, 1, 1L);
            x.tick(1);
            Wire.silence(x);
            Check.due("FIRST", x.sent(end, first), 0);
            Check.due("BEFORE FIRST", x.sent(end, first - 1), -1);
            Check.due("UNDER WAY", x.sent(end, data), 1);
            Check.due("NEXT is not sent yet", x.sent(end, data + 1), -1);
            Check.due("NEXT + 1 is not sent yet", x.sent(end, data + 2), -1);
            send(x, end, 254);
            Check.due("NEXT", x.number(end, 0), data + 255);
            Check.due("255 behind", x.sent(end, data), 1);
            Check.due("PIPE", x.count(end, 0), 1);
            Check.due("256 behind", x.sent(end, data - 1), -1);
            send(x, end, 1);
            Check.due("256 behind now", x.sent(end, data), -1);
            Check.due("PIPE is of SENT", x.count(end, 0), 0);
            Check.due("255 behind now", x.sent(end, data + 1), 0);
            Check.due("the place of it is that of NEXT", x.sent(end, data + 256), -1);
            send(x, end, 1);
            Check.due("no data there now", x.sent(end, data + 256), 0);
            Check.due("half the numbers away", x.sent(end, data + (1L << 47)), -1);
        }
    }

    private static void vectorIs(String what, FlowTalk x, int i, int... rows) {
        int[] o = Wire.options(Wire.bytes(x, i));
        int[] due = rows.length == 0 ? Wire.NONE : Wire.join(new int[] {6, 2 + rows.length}, rows);
        Check.holds(what + ": " + Arrays.toString(o) + ", due is " + Arrays.toString(due), Arrays.equals(o, due));
    }

    /** End 1 has MET 100 and these numbers got, of which the last two, with data, come in one tick: an ACK is sent. */
    private static FlowTalk got(long... numbers) {
        FlowTalk x = new FlowTalk(100L, 200L, 0);
        x.listen();
        comes(x, 1, Wire.packet(Wire.REQUEST, 100, 0, Wire.NONE));
        Wire.silence(x);
        return got(x, numbers);
    }

    private static FlowTalk got(FlowTalk x, long... numbers) {
        for (int i = 0; i < numbers.length; i++) {
            boolean last = i >= numbers.length - 2;
            Wire.post(x, 1, Wire.packet(last ? Wire.DATA : Wire.ANSWER, numbers[i], x.number(1, 0) - 1, Wire.NONE));
            if (!last && i % 50 == 49) x.tick(1);
        }
        x.tick(1);
        Check.due("one ACK", x.way() * 10 + x.octet(0, 0), 13);
        return x;
    }

    /** "to the last one that is not BEFORE MET". */
    private static void vectorToMet() {
        vectorIs("102 .. 100", got(101, 102), 0, 2);
        vectorIs("103, not 102, 101, 100", got(101, 103), 0, 0, 192, 1);
        vectorIs("103, 102, not 101, 100", got(102, 103), 0, 1, 192, 0);
    }

    /** "and not BEFORE BASE .. (.. without any there is no VECTOR)". */
    private static void vectorToBase() {
        FlowTalk x = got(101, 103);
        Wire.silence(x);
        long vector = x.number(1, 0) - 1;
        comes(x, 1, Wire.packet(Wire.ACK, 104, vector - 1, Wire.NONE));
        Check.due("another one is told: BASE", x.number(1, 4), 100);
        comes(x, 1, Wire.packet(Wire.ACK, 105, vector, Wire.NONE));
        Check.due("it is told: BASE", x.number(1, 4), 104);
        got(x, 106, 108);
        vectorIs("108, not 107, 106 .. 104", x, 0, 0, 192, 2);
        Wire.silence(x);
        // BASE is 109 then, while HIGH stays 108: none is left
        Wire.post(x, 1, Wire.packet(Wire.BOTH, 107, x.number(1, 0) - 1, Wire.NONE));
        comes(x, 1, Wire.packet(Wire.DATA, 102, 0, Wire.NONE));
        Check.due("BASE is HIGH + 1", x.number(1, 4) - x.number(1, 2), 1);
        Check.due("an ACK without VECTOR", x.octet(0, 0) * 1000 + x.octet(0, 1), 3000);
        Wire.silence(x);
        got(x, 109, 110);
        vectorIs("110 and 109", x, 0, 1);
    }

    /** "and less than 100 behind HIGH". */
    private static void vectorBehindHigh() {
        vectorIs("MET is 98 behind", got(150, 198), 0, 0, 192 + 46, 0, 192 + 48, 0);
        vectorIs("MET is 99 behind", got(150, 199), 0, 0, 192 + 47, 0, 192 + 48, 0);
        vectorIs("MET is 100 behind", got(150, 200), 0, 0, 192 + 48, 0, 192 + 48);
        vectorIs("MET is 101 behind", got(150, 201), 0, 0, 192 + 49, 0, 192 + 47);
        vectorIs("101 is 99 behind", got(101, 150, 200), 0, 0, 192 + 48, 0, 192 + 47, 0);
    }

    /** "in rows of like ones, 64 at most each". */
    private static void vectorRows() {
        vectorIs("62 missing", got(163, 164), 0, 1, 192 + 61, 0);
        vectorIs("63 missing", got(164, 165), 0, 1, 192 + 62, 0);
        vectorIs("64 missing", got(165, 166), 0, 1, 192 + 63, 0);
        vectorIs("65 missing", got(166, 167), 0, 1, 192 + 63, 192, 0);
        vectorIs("66 missing", got(167, 168), 0, 1, 192 + 63, 193, 0);
        for (int n : new int[] {62, 63, 64, 65}) {
            long[] all = new long[n];
            for (int i = 0; i < n; i++) all[i] = 101 + i;
            int run = n + 1;
            if (run <= 64) vectorIs(run + " got", got(all), 0, run - 1);
            else vectorIs(run + " got", got(all), 0, 63, run - 65);
        }
    }

    /** "at most 40 rows (the others are left out)". */
    private static void vectorOfFortyRows() {
        for (int rows : new int[] {37, 39, 41, 43}) {
            // each second number from MET on is got: rows of one
            long[] numbers = new long[rows / 2];
            for (int i = 0; i < numbers.length; i++) numbers[i] = 102 + 2 * i;
            FlowTalk x = got(numbers);
            Check.due(rows + " rows: bytes of OPTIONS", x.octet(0, 1), 2 + Math.min(40, rows));
        }
        // 200, not 199, .. 164, not 163: 38 rows; 162 .. 131; not 130 .. 101, since 100 is 100 behind
        long[] forty = new long[51];
        for (int i = 0; i < 32; i++) forty[i] = 131 + i;
        for (int i = 0; i < 19; i++) forty[32 + i] = 164 + 2 * i;
        int[] rows = new int[40];
        for (int i = 0; i < 38; i++) rows[i] = i % 2 * 192;
        rows[38] = 31;
        rows[39] = 192 + 29;
        vectorIs("just 40 rows", got(forty), 0, rows);
        long[] more = new long[52];
        more[0] = 101;
        System.arraycopy(forty, 0, more, 1, 51);
        rows[39] = 192 + 28;
        vectorIs("the 41st row is left out", got(more), 0, rows);
    }

    /** "when a packet of its own, in which it sent a VECTOR, is told to be got, it is 1 more than HIGH was then, if ..". */
    private static void baseGoesUpOnly() {
        FlowTalk x = got(101, 102);
        Wire.silence(x);
        long one = x.number(1, 0) - 1;
        got(x, 103, 104);
        Wire.silence(x);
        long two = x.number(1, 0) - 1;
        got(x, 105, 106);
        Wire.silence(x);
        comes(x, 1, Wire.packet(Wire.ACK, 107, two, Wire.NONE));
        Check.due("the second one", x.number(1, 4), 105);
        comes(x, 1, Wire.packet(Wire.ACK, 108, one, Wire.NONE));
        Check.due("the first one later: not BEFORE", x.number(1, 4), 105);
        comes(x, 1, Wire.packet(Wire.ACK, 109, two, Wire.NONE));
        Check.due("the second one again: the same", x.number(1, 4), 105);
        comes(x, 1, Wire.packet(Wire.ACK, 110, two + 1, new int[] {6, 3, 192}));
        Check.due("the third one, by ACK, whatever the VECTOR says", x.number(1, 4), 107);
        x = got(101, 102);
        Wire.silence(x);
        long vector = x.number(1, 0) - 1;
        send(x, 1, 3);
        long high = x.number(1, 2);
        comes(x, 1, Wire.packet(Wire.ACK, high + 1, vector + 3, new int[] {6, 4, 0, 193}));
        Check.due("not got, by a VECTOR", x.number(1, 4), 100);
        comes(x, 1, Wire.packet(Wire.SYNC, high + 2, vector, new int[] {6, 3, 0}));
        Check.due("a SYNC tells nothing", x.number(1, 4), 100);
        comes(x, 1, Wire.packet(Wire.ANSWER, high + 3, vector, new int[] {6, 3, 0}));
        Check.due("an ANSWER tells nothing", x.number(1, 4), 100);
        comes(x, 1, Wire.packet(Wire.ACK, high + 4, vector + 3, new int[] {6, 4, 194, 0}));
        Check.due("got, by a VECTOR", x.number(1, 4), 103);
        comes(x, 1, Wire.packet(Wire.ACK, high + 5, vector + 3, new int[] {6, 3, 63}));
        Check.due("a VECTOR beyond FIRST", x.number(1, 4) * 10 + x.state(1), 1035);
        baseByVectorsAlone();
        baseBehindNext();
    }

    /** Packets in which there was no VECTOR, and numbers that it never sent, move no BASE, wherever numbers begin. */
    private static void baseByVectorsAlone() {
        for (long first : new long[] {100, -100, 1L << 47}) {
            FlowTalk x = new FlowTalk(first, first + 9000, 0);
            x.listen();
            x.open();
            x.tick(8);
            x.give(1, 1, 1L);
            comes(x, 1, Wire.packet(Wire.ANSWER, x.number(1, 2) + 1, x.number(1, 0) - 1, Wire.NONE));
            Check.due("DATA", x.octet(0, 0), Wire.DATA);
            Wire.silence(x);
            comes(x, 1, Wire.packet(Wire.SYNC, x.number(1, 2) + 1, x.number(1, 0) - 1, Wire.NONE));
            Check.due("ANSWER", x.octet(0, 0), Wire.ANSWER);
            Wire.silence(x);
            comes(x, 1, Wire.packet(Wire.ACK, x.number(1, 2) + 1, x.number(1, 0) - 1, new int[] {6, 6, 63, 63, 63, 63}));
            Check.due("DATA is told", x.count(1, 0), 0);
            Check.due("BASE is MET", x.number(1, 4), x.number(1, 3));
        }
    }

    /** SENT ends 256 behind NEXT; that a packet with a VECTOR is told moves BASE beyond that, too. */
    private static void baseBehindNext() {
        for (int behind = 254; behind <= 258; behind++) {
            FlowTalk x = got(101, 102);
            Wire.silence(x);
            long vector = x.number(1, 0) - 1;
            send(x, 1, behind - 1);
            Check.due("NEXT", x.number(1, 0), vector + behind);
            Check.due(behind + " behind NEXT: SENT", x.sent(1, vector), behind < 256 ? 0 : -1);
            // from NEXT - 1 downwards, to the one above it and no more, then to it
            for (int more = 0; more < 2; more++) {
                int left = behind - 2 - 192 + more;
                int[] rows = {6, 7, 63, 63, 63, Math.min(left, 63), left > 63 ? left - 64 : 192};
                comes(x, 1, Wire.packet(Wire.ACK, x.number(1, 2) + 1, x.number(1, 0) - 1, rows));
                Check.due(behind + " behind NEXT, told: " + more + ": BASE", x.number(1, 4), more == 0 ? 100 : 103);
            }
        }
    }

    private static FlowTalk in(int state, int end) {
        FlowTalk x = new FlowTalk(100L, 200L, 0);
        if (state == Wire.CLOSED) return x;
        if (end == 1) {
            x.listen();
            if (state == Wire.LISTEN) return x;
            comes(x, 1, Wire.packet(Wire.REQUEST, 100, 0, Wire.NONE));
        } else {
            x.open();
            Wire.silence(x);
            if (state == Wire.REQUESTED) return x;
            comes(x, 0, Wire.packet(Wire.RESPONSE, 200, 100, Wire.NONE));
        }
        Wire.silence(x);
        if (state == Wire.RESPOND || state == Wire.PARTOPEN) return x;
        comes(x, end, Wire.packet(Wire.ACK, x.number(end, 2) + 1, x.number(end, 0) - 1, Wire.NONE));
        if (state == Wire.ASKED || state == Wire.CLOSING) x.close(end);
        if (state == Wire.WAIT) comes(x, end, Wire.reset(x.number(end, 2) + 1, x.number(end, 0) - 1, 7));
        Wire.silence(x);
        return x;
    }

    private static int[] ofKind(int kind, long number, long ack) {
        return kind == Wire.RESET ? Wire.reset(number, ack, 9) : Wire.packet(kind, number, ack, Wire.NONE);
    }

    /** For a kind each: the state then, the kind that is sent (- for none), and the CODE if that is a RESET. */
    private static final String[][] KINDS = {
        {"0 0", "0R1", "0R1", "0R1", "0R1", "0R1", "0R1", "0R1", "0- ", "0R1", "0R1"},
        {"0 1", "0R1", "0R1", "0R1", "0R1", "0R1", "0R1", "0R1", "0- ", "0R1", "0R1"},
        {"8 0", "8R1", "8R1", "8R1", "8R1", "8R1", "8R1", "8R1", "8- ", "8R1", "8R1"},
        {"8 1", "8R1", "8R1", "8R1", "8R1", "8R1", "8R1", "8R1", "8- ", "8R1", "8R1"},
        {"1 1", "31 ", "1R1", "1R1", "1R1", "1R1", "1R1", "1R1", "1- ", "1R1", "1R1"},
        {"2 0", "2R2", "43 ", "2R2", "2R2", "2R2", "2R2", "2R2", "0- ", "2R2", "2R2"},
        {"3 1", "31 ", "38 ", "5- ", "5- ", "5- ", "38 ", "0R0", "8- ", "59 ", "5- "},
        {"4 0", "48 ", "43 ", "5- ", "5- ", "5- ", "76 ", "0R0", "8- ", "49 ", "5- "},
        {"5 0", "58 ", "58 ", "5- ", "5- ", "5- ", "76 ", "0R0", "8- ", "59 ", "5- "},
        {"5 1", "58 ", "58 ", "5- ", "5- ", "5- ", "58 ", "0R0", "8- ", "59 ", "5- "},
        {"6 1", "68 ", "68 ", "6- ", "6- ", "6- ", "68 ", "0R0", "8- ", "69 ", "6- "},
        {"7 0", "78 ", "78 ", "7- ", "7- ", "7- ", "7- ", "0R0", "8- ", "79 ", "7- "},
    };

    private static void isThen(String what, FlowTalk x, int end, String due) {
        Check.due(what + ": state", x.state(end), due.charAt(0) - '0');
        char sent = due.charAt(1);
        Check.due(what + ": how many are sent", x.way(), sent == '-' ? 0 : 1);
        if (sent == '-') return;
        Check.due(what + ": to the other end", x.packet(0, 0), 1 - end);
        Check.due(what + ": the kind sent", x.octet(0, 0), sent == 'R' ? Wire.RESET : sent - '0');
        if (sent == 'R') Check.due(what + ": CODE", x.octet(0, 16), due.charAt(2) - '0');
        if (sent == 'R') Check.due(what + ": CODE sent", x.count(end, 14), due.charAt(2) - '0');
    }

    /** Part 4, "by its state": each kind in each state, its number and ACK fitting. */
    private static void kindsByState() {
        for (String[] row : KINDS) {
            int state = row[0].charAt(0) - '0', end = row[0].charAt(2) - '0';
            for (int kind = 0; kind < 10; kind++) {
                FlowTalk x = in(state, end);
                Check.due("in the state", x.state(end) * 100 + x.way(), state * 100);
                long number = x.number(end, 2) + 1, ack = x.number(end, 0) - 1;
                int come = x.count(end, 7), delivered = x.count(end, DELIVERED), heard = x.count(end, 15);
                comes(x, end, ofKind(kind, number, ack));
                String what = "state " + state + ", kind " + kind + " to end " + end;
                isThen(what, x, end, row[1 + kind]);
                Check.due(what + ": come", x.count(end, 7), come + 1);
                Check.due(what + ": BAD, OUT, AGAIN", x.count(end, 8) + x.count(end, OUT) + x.count(end, AGAIN), 0);
                boolean live = state >= Wire.RESPOND && state <= Wire.CLOSING;
                boolean data = live && (kind == Wire.DATA || kind == Wire.BOTH);
                Check.due(what + ": DELIVERED", x.count(end, DELIVERED) - delivered, data ? 1 : 0);
                boolean hears = kind == Wire.RESET && (live || state == Wire.REQUESTED);
                Check.due(what + ": CODE heard", x.count(end, 15), hears ? 9 : heard);
                if (x.way() > 0) Check.due(what + ": ACK", Wire.ack(Wire.bytes(x, 0)), ackOf(x, number));
                boolean got = live && !"8".equals(row[1 + kind].substring(1, 2)) && !(state == Wire.PARTOPEN && kind == Wire.RESPONSE);
                if (live) Check.due(what + ": GOT", x.seen(end, number), got ? 1 : -1);
            }
        }
    }

    /** "(A SYNC's, ANSWER's ACK is the NUMBER of what it is for ..)"; of others it is HIGH. */
    private static long ackOf(FlowTalk x, long number) {
        int kind = x.octet(0, 0);
        return kind == Wire.SYNC || kind == Wire.ANSWER ? number : x.number(1 - x.packet(0, 0), 2);
    }

    /** "if its number does not fit, or it has an ACK that does not fit: it is OUT, and counted; a SYNC is sent, if ..". */
    private static void outByState() {
        for (String[] row : KINDS) {
            int state = row[0].charAt(0) - '0', end = row[0].charAt(2) - '0';
            if (state < Wire.RESPOND || state > Wire.CLOSING) continue;
            for (int kind = 0; kind < 10; kind++) {
                for (int byAck = 0; byAck < 2; byAck++) {
                    boolean hasAck = kind != Wire.REQUEST && kind != Wire.DATA;
                    if (byAck == 1 && !hasAck) continue;
                    FlowTalk x = in(state, end);
                    Shown before = Shown.of(x);
                    long number = x.number(end, 2) + (byAck == 1 ? 1 : 76), ack = x.number(end, 0) - 1 + byAck;
                    comes(x, end, ofKind(kind, number, ack));
                    boolean sync = kind < Wire.RESET;
                    String what = "OUT in state " + state + ", kind " + kind + " to end " + end;
                    isThen(what, x, end, (char) ('0' + state) + (sync ? "8 " : "- "));
                    Check.due(what + ": counted", x.count(end, OUT), 1);
                    Check.due(what + ": not GOT", x.seen(end, number), -1);
                    if (sync) Check.due(what + ": ACK", Wire.ack(Wire.bytes(x, 0)), number);
                    Check.holds(what + ": something is shown", Shown.of(x).differs(before) != null);
                }
            }
        }
    }

    /** "if its number is GOT already: AGAIN, it is counted, nothing else"; but OUT and what does not belong come first. */
    private static void againByState() {
        for (String[] row : KINDS) {
            int state = row[0].charAt(0) - '0', end = row[0].charAt(2) - '0';
            if (state < Wire.RESPOND || state > Wire.CLOSING) continue;
            for (int kind = 0; kind < 10; kind++) {
                FlowTalk x = in(state, end);
                long number = x.number(end, 2), ack = x.number(end, 0) - 1;
                comes(x, end, ofKind(kind, number, ack));
                boolean first = kind == Wire.RESPONSE || (kind == Wire.REQUEST && state != Wire.RESPOND)
                    || (kind == Wire.ASK && end == 1);
                String what = "AGAIN in state " + state + ", kind " + kind + " to end " + end;
                isThen(what, x, end, first ? row[1 + kind] : (char) ('0' + state) + "- ");
                Check.due(what + ": counted", x.count(end, AGAIN), first ? 0 : 1);
                Check.due(what + ": DELIVERED", x.count(end, DELIVERED), 0);
            }
        }
    }

    /** "and no SYNC was sent in this tick by this end": one of each end, and one again in the next tick. */
    private static void oneSyncATick() {
        FlowTalk x = Wire.opened();
        for (int t = 1; t <= 3; t++) {
            for (int end = 0; end < 2; end++) {
                for (int i = 0; i < 3; i++) Wire.post(x, end, Wire.packet(Wire.DATA, 9000 + i, 0, Wire.NONE));
                Wire.post(x, end, Wire.packet(Wire.REQUEST, x.number(end, 2) + 1, 0, Wire.NONE));
                Wire.post(x, end, Wire.packet(Wire.RESPONSE, x.number(end, 2) + 1, x.number(end, 0) - 1, Wire.NONE));
            }
            x.tick(1);
            Check.due("one SYNC of each end", x.way(), 2);
            Check.due("for the first of them", Wire.ack(Wire.bytes(x, 0)) + Wire.ack(Wire.bytes(x, 1)), 18000);
            Check.due("OUT are three", x.count(0, OUT) * 100 + x.count(1, OUT), 303 * t);
            Wire.silence(x);
        }
        // a REQUEST that does not belong takes the tick's SYNC as well
        Wire.post(x, 1, Wire.packet(Wire.REQUEST, x.number(1, 2) + 1, 0, Wire.NONE));
        Wire.post(x, 1, Wire.packet(Wire.DATA, 9000, 0, Wire.NONE));
        x.tick(1);
        Check.due("one SYNC", x.way(), 1);
        Check.due("for the REQUEST", Wire.ack(Wire.bytes(x, 0)), x.number(1, 2) + 1);
        Wire.silence(x);
        // an ANSWER is no SYNC, and ACKS in PARTOPEN are not asked for one
        Wire.post(x, 1, Wire.packet(Wire.DATA, 9000, 0, Wire.NONE));
        Wire.post(x, 1, Wire.packet(Wire.SYNC, x.number(1, 2) + 1, x.number(1, 0) - 1, Wire.NONE));
        Wire.post(x, 1, Wire.packet(Wire.SYNC, x.number(1, 2) + 2, x.number(1, 0) - 1, Wire.NONE));
        x.tick(1);
        Check.due("a SYNC and two ANSWERS", x.way(), 3);
        x = in(Wire.PARTOPEN, 0);
        for (int i = 0; i < 3; i++) Wire.post(x, 0, Wire.packet(Wire.RESPONSE, 200, 100, Wire.NONE));
        x.tick(1);
        Check.due("an ACK for each RESPONSE", x.way(), 3);
    }
}
