/** Part 5's edges: how CWND grows and is halved, what is LOST, when it is TOO LONG. */
public final class FlightEdgesTest {
    private static final int PIPE = 0, CWND = 1, EDGE = 2, RTO = 3, GROWN = 4, TO_SEND = 5;

    public static void main(String[] args) {
        atFirst();
        belowEdge();
        atEdge();
        sixty();
        halved();
        threeBehind();
        onlyDataBehind();
        recover();
        toldTwice();
        lostThenTold();
        tooLong();
        halfByTooLong();
        rtoTwice();
        clock();
        whoTells();
        numbersThatAreToldInVain();
        byEitherWay();
        pipeBelowCwnd();
        fourOrTwoInATick();
        Check.finish();
    }

    private static void is(String what, FlowTalk x, int end, int... want) {
        String[] names = {"PIPE", "CWND", "EDGE", "RTO", "GROWN"};
        for (int i = 0; i < want.length; i++) Check.due(what + ": " + names[i], x.count(end, i), want[i]);
    }

    private static void give(FlowTalk x, int end, int n) {
        for (int i = 0; i < n; i++) x.give(end, 1, i);
    }

    /** The end hears an ACK with a VECTOR of these rows; all that is on the way is lost before and behind. */
    private static void told(FlowTalk x, int end, long ack, int... rows) {
        tell(x, end, Wire.ACK, ack, rows);
    }

    private static void tell(FlowTalk x, int end, int kind, long ack, int... rows) {
        int[] options = rows.length == 0 ? Wire.NONE : Wire.join(new int[] {6, 2 + rows.length}, rows);
        Wire.silence(x);
        long number = x.number(end, 2) + 1;
        Wire.post(x, end, kind == Wire.RESET ? Wire.reset(number, ack, 0, options) : Wire.packet(kind, number, ack, options));
        x.tick(1);
        Wire.silence(x);
    }

    private static void silentTicks(FlowTalk x, int n) {
        for (int i = 0; i < n; i++) {
            x.tick(1);
            Wire.silence(x);
        }
    }

    /** "CWND at first 3, EDGE at first 64, RTO at first 8, GROWN 0, RECOVER: none". */
    private static void atFirst() {
        FlowTalk x = Wire.opened();
        for (int end = 0; end < 2; end++) {
            is("at first", x, end, 0, 3, 64, 8, 0);
            Check.due("RECOVER", x.number(end, 5), -1);
        }
    }

    /** "if CWND is below EDGE, CWND grows by 1": one for each number, by ACK and by VECTOR. */
    private static void belowEdge() {
        for (int end = 0; end < 2; end++) {
            for (int n = 1; n <= 3; n++) {
                FlowTalk x = Wire.opened();
                long first = x.number(end, 0);
                give(x, end, 3);
                x.tick(1);
                if (n == 1) told(x, end, first);
                else told(x, end, first + n - 1, n - 1);
                is(n + " are told", x, end, 3 - n, 3 + n, 64, 8, 0);
                for (int i = 0; i < 3; i++) Check.due("SENT " + i, x.sent(end, first + i), i < n ? 2 : 1);
            }
        }
    }

    /** "else GROWN does, and if it is CWND then, CWND grows by 1, GROWN is 0". */
    private static void atEdge() {
        FlowTalk x = Wire.opened();
        give(x, 0, 3);
        silentTicks(x, 9);
        is("TOO LONG", x, 0, 0, 1, 2, 16, 0);
        int[][] due = {{2, 0}, {2, 1}, {3, 0}, {3, 1}, {3, 2}, {4, 0}, {4, 1}, {4, 2}, {4, 3}, {5, 0}, {5, 1}};
        for (int[] d : due) {
            long next = x.number(0, 0);
            give(x, 0, 1);
            x.tick(1);
            told(x, 0, next);
            is("one more told", x, 0, 0, d[0], 2, 8, d[1]);
        }
    }

    /** "CWND is 60 at most". */
    private static void sixty() {
        FlowTalk x = Wire.opened();
        for (int n = 4; n <= 63; n++) {
            long next = x.number(0, 0);
            give(x, 0, 1);
            x.tick(1);
            told(x, 0, next);
            is("told", x, 0, 0, Math.min(60, n), 64, 8, 0);
        }
    }

    /** "EDGE and CWND are half of CWND (downward; EDGE 2 at least, CWND 1), GROWN 0". */
    private static void halved() {
        for (int cwnd = 4; cwnd <= 60; cwnd += cwnd < 12 ? 1 : 6) {
            FlowTalk x = Wire.opened();
            // four are under way at once, and the last three of them are told
            for (int n = 3; n < Math.max(4, cwnd - 3); n++) {
                long next = x.number(0, 0);
                give(x, 0, 1);
                x.tick(1);
                told(x, 0, next);
            }
            int before = x.count(0, CWND);
            long next = x.number(0, 0);
            give(x, 0, 4);
            x.tick(1);
            told(x, 0, next + 3, 2);
            Check.due("LOST", x.sent(0, next), 3);
            int then = Math.min(60, before + 3);
            is("halved from " + then, x, 0, 0, then / 2, then / 2, 8, 0);
            Check.due("RECOVER is NEXT - 1", x.number(0, 5), next + 3);
        }
        halvedFromThree();
    }

    /** By WAY 2 four go though CWND is 1; three of them told make it 3: half of that is 1, and EDGE 2 at least. */
    private static void halvedFromThree() {
        FlowTalk x = wayTwo(0);
        give(x, 0, 1);
        silentTicks(x, 9);
        is("TOO LONG", x, 0, 0, 1, 2, 16, 0);
        long next = x.number(0, 0);
        give(x, 0, 4);
        silentTicks(x, 2);
        told(x, 0, next + 3, 2);
        Check.due("LOST", x.sent(0, next), 3);
        is("halved from 3", x, 0, 0, 1, 2, 8, 0);
        // GROWN is 1 by the first of these, and it is 0 when the window is halved
        next = x.number(0, 0);
        give(x, 0, 5);
        silentTicks(x, 3);
        told(x, 0, next + 4, 3);
        is("four told: 2, then GROWN 1, 3, GROWN 1; halved from 3", x, 0, 0, 1, 2, 8, 0);
        Check.due("LOST", x.sent(0, next), 3);
    }

    private static FlowTalk wayTwo(int end) {
        FlowTalk x = Wire.opened();
        x.want(end, 4, true, 1, 2);
        x.tick(3);
        Wire.silence(x);
        Check.due("WAY 2", x.feature(end, 4, true, 0), 2);
        return x;
    }

    /** "each number that is UNDER WAY, behind which three others are 2 now, is LOST": two, three and four. */
    private static void threeBehind() {
        for (int n = 1; n <= 4; n++) {
            FlowTalk x = wayTwo(0);
            long next = x.number(0, 0);
            give(x, 0, 6);
            silentTicks(x, 3);
            told(x, 0, next + 5, n - 1);
            for (int i = 0; i < 6; i++) {
                boolean told = i > 5 - n;
                Check.due(n + " told, SENT " + i, x.sent(0, next + i), told ? 2 : n >= 3 ? 3 : 1);
            }
            Check.due("PIPE", x.count(0, PIPE), n >= 3 ? 0 : 6 - n);
            Check.due("RECOVER", x.number(0, 5), n >= 3 ? next + 5 : -1);
        }
        // not in a row, and not all behind: 0 has three behind it, 2 has two
        FlowTalk x = wayTwo(0);
        long next = x.number(0, 0);
        give(x, 0, 6);
        silentTicks(x, 3);
        told(x, 0, next + 5, 0, 192, 0, 192, 0, 192);
        Check.due("three behind it", x.sent(0, next), 3);
        Check.due("two behind it", x.sent(0, next + 2), 1);
        Check.due("one behind it", x.sent(0, next + 4), 1);
        Check.due("PIPE", x.count(0, PIPE), 2);
        // one that is told later is behind it as well
        told(x, 0, next + 4, 0);
        Check.due("three behind it now", x.sent(0, next + 2), 3);
    }

    /** Only numbers that are 2 count: an ACK of the end's own that is told is no data. */
    private static void onlyDataBehind() {
        FlowTalk x = Wire.opened();
        long next = x.number(0, 0);
        give(x, 0, 1);
        silentTicks(x, 1);
        for (int i = 0; i < 4; i++) {
            tell(x, 0, Wire.SYNC, next);
        }
        Check.due("four ANSWERS went", x.number(0, 0), next + 5);
        told(x, 0, next + 4, 3);
        Check.due("told, but no data", x.sent(0, next + 4), 0);
        is("not LOST", x, 0, 1, 3, 64, 8, 0);
    }

    /** "if there is no RECOVER, or it is AFTER that": RECOVER itself, and one more. */
    private static void recover() {
        for (int off = 0; off <= 1; off++) {
            FlowTalk x = wayTwo(0);
            long next = x.number(0, 0);
            give(x, 0, 4);
            if (off == 0) give(x, 0, 1);
            silentTicks(x, 3);
            told(x, 0, next + 3, 2);
            long recover = x.number(0, 5);
            Check.due("RECOVER", recover, off == 0 ? next + 4 : next + 3);
            Check.due("UNDER WAY still", x.count(0, PIPE), off == 0 ? 1 : 0);
            give(x, 0, off == 0 ? 3 : 4);
            silentTicks(x, 2);
            int before = x.count(0, CWND);
            told(x, 0, x.number(0, 0) - 1, 2);
            Check.due("RECOVER + " + off + " is LOST", x.sent(0, recover + off), 3);
            Check.due("RECOVER + " + off + ": RECOVER then", x.number(0, 5), off == 0 ? recover : x.number(0, 0) - 1);
            // CWND and EDGE were halved to 3: three that are told make CWND 4, and half of that is 2
            Check.due("CWND before", before, 3);
            is("RECOVER + " + off, x, 0, 0, off == 0 ? 4 : 2, off == 0 ? 3 : 2, 8, 0);
        }
    }

    /** "Each number that is told to be got and was UNDER WAY": once. */
    private static void toldTwice() {
        FlowTalk x = Wire.opened();
        long next = x.number(0, 0);
        give(x, 0, 3);
        x.tick(1);
        told(x, 0, next + 1);
        is("told", x, 0, 2, 4, 64, 8, 0);
        told(x, 0, next + 1, 0, 192);
        is("told again, twice in one packet", x, 0, 2, 4, 64, 8, 0);
        told(x, 0, next + 1, 63);
        is("the one before it", x, 0, 1, 5, 64, 8, 0);
    }

    /** "also one that was LOST, without what follows". */
    private static void lostThenTold() {
        FlowTalk x = Wire.opened();
        long next = x.number(0, 0);
        give(x, 0, 3);
        silentTicks(x, 9);
        is("TOO LONG", x, 0, 0, 1, 2, 16, 0);
        give(x, 0, 1);
        silentTicks(x, 1);
        told(x, 0, next + 2, 2);
        Check.due("2 now", x.sent(0, next) * 100 + x.sent(0, next + 1) * 10 + x.sent(0, next + 2), 222);
        is("nothing else", x, 0, 1, 1, 2, 16, 0);
        silentTicks(x, 14);
        is("the CLOCK is not now", x, 0, 1, 1, 2, 16, 0);
        silentTicks(x, 1);
        is("16 ticks behind its sending", x, 0, 0, 1, 2, 32, 0);
        // they count among the three
        x = wayTwo(0);
        next = x.number(0, 0);
        give(x, 0, 4);
        silentTicks(x, 2);
        told(x, 0, next + 3, 2);
        Check.due("LOST", x.sent(0, next), 3);
        told(x, 0, next);
        Check.due("2 now", x.sent(0, next), 2);
    }

    /** "PIPE is above 0, and the CLOCK is RTO ticks ago, or more: all under way are LOST". */
    private static void tooLong() {
        for (int end = 0; end < 2; end++) {
            FlowTalk x = Wire.opened();
            long next = x.number(end, 0);
            give(x, end, 2);
            silentTicks(x, 1 + 7);
            is("7 ticks ago", x, end, 2, 3, 64, 8, 0);
            Check.due("RECOVER", x.number(end, 5), -1);
            silentTicks(x, 1);
            is("8 ticks ago", x, end, 0, 1, 2, 16, 0);
            Check.due("LOST", x.sent(end, next) * 10 + x.sent(end, next + 1), 33);
            Check.due("RECOVER is NEXT - 1", x.number(end, 5), x.number(end, 0) - 1);
            silentTicks(x, 40);
            is("PIPE is 0", x, end, 0, 1, 2, 16, 0);
        }
        // what is to be sent goes in the same tick
        FlowTalk x = Wire.opened();
        long next = x.number(0, 0);
        give(x, 0, 4);
        silentTicks(x, 9);
        is("the fourth went", x, 0, 1, 1, 2, 16, 0);
        Check.due("RECOVER is NEXT - 1 of before", x.number(0, 5), next + 2);
        silentTicks(x, 15);
        Check.due("15 ticks behind that", x.count(0, PIPE), 1);
        silentTicks(x, 1);
        Check.due("16 ticks behind that", x.count(0, PIPE), 0);
        // in the places at both ends of 256
        x = new FlowTalk(256 - 5, 200L, 0);
        x.listen();
        x.open();
        x.tick(8);
        give(x, 0, 3);
        silentTicks(x, 9);
        Check.due("254, 255, 256", x.sent(0, 254) * 100 + x.sent(0, 255) * 10 + x.sent(0, 256), 333);
    }

    /** "EDGE is half of CWND (2 at least), CWND 1, GROWN 0". */
    private static void halfByTooLong() {
        for (int cwnd = 4; cwnd <= 60; cwnd += cwnd < 12 ? 1 : 6) {
            FlowTalk x = Wire.opened();
            for (int n = 3; n < cwnd; n++) {
                long next = x.number(0, 0);
                give(x, 0, 1);
                x.tick(1);
                told(x, 0, next);
            }
            Check.due("CWND", x.count(0, CWND), cwnd);
            give(x, 0, 1);
            silentTicks(x, 9);
            is("from " + cwnd, x, 0, 0, 1, cwnd / 2, 16, 0);
        }
        FlowTalk x = Wire.opened();
        give(x, 0, 1);
        silentTicks(x, 9);
        is("from 3", x, 0, 0, 1, 2, 16, 0);
        give(x, 0, 1);
        silentTicks(x, 17);
        is("from 1", x, 0, 0, 1, 2, 32, 0);
        for (int i = 0; i < 2; i++) {
            long next = x.number(0, 0);
            give(x, 0, 1);
            x.tick(1);
            told(x, 0, next);
        }
        is("GROWN", x, 0, 0, 2, 2, 8, 1);
        give(x, 0, 1);
        silentTicks(x, 9);
        is("GROWN 0", x, 0, 0, 1, 2, 16, 0);
    }

    /** "RTO twice what it was (64 at most), the CLOCK is now"; "RTO is 8 then". */
    private static void rtoTwice() {
        FlowTalk x = Wire.opened();
        int[] rto = {8, 16, 32, 64, 64, 64};
        for (int r : rto) {
            Check.due("RTO", x.count(0, RTO), r);
            give(x, 0, 1);
            silentTicks(x, r);
            Check.due(r - 1 + " ticks ago", x.count(0, PIPE), 1);
            silentTicks(x, 1);
            Check.due(r + " ticks ago", x.count(0, PIPE), 0);
        }
        long next = x.number(0, 0);
        give(x, 0, 1);
        x.tick(1);
        told(x, 0, next);
        Check.due("told: RTO", x.count(0, RTO), 8);
    }

    /** "(Also the CLOCK is now when a packet with data is sent while PIPE is 0.)" */
    private static void clock() {
        FlowTalk x = Wire.opened();
        x.tick(20);
        give(x, 0, 1);
        silentTicks(x, 1 + 3);
        give(x, 0, 1);
        silentTicks(x, 4);
        is("PIPE was 1: the CLOCK is the first one's", x, 0, 2, 3, 64, 8, 0);
        silentTicks(x, 1);
        is("8 ticks behind the first", x, 0, 0, 1, 2, 16, 0);
        // told and sent again while PIPE is 0
        x = Wire.opened();
        long next = x.number(0, 0);
        give(x, 0, 1);
        x.tick(1);
        told(x, 0, next);
        silentTicks(x, 30);
        give(x, 0, 1);
        silentTicks(x, 8);
        Check.due("7 ticks behind", x.count(0, PIPE), 1);
        silentTicks(x, 1);
        Check.due("8 ticks behind", x.count(0, PIPE), 0);
        // told while others stay: the CLOCK is now
        x = Wire.opened();
        next = x.number(0, 0);
        give(x, 0, 2);
        silentTicks(x, 1 + 6);
        told(x, 0, next);
        silentTicks(x, 7);
        Check.due("7 ticks behind being told", x.count(0, PIPE), 1);
        silentTicks(x, 1);
        Check.due("8 ticks behind being told", x.count(0, PIPE), 0);
        // told in the very tick in which it would be TOO LONG: packets come first
        x = Wire.opened();
        next = x.number(0, 0);
        give(x, 0, 2);
        silentTicks(x, 1 + 7);
        told(x, 0, next);
        is("told in time", x, 0, 1, 4, 64, 8, 0);
    }

    /** "(ACK, then each VECTOR's, from ACK downwards; not for SYNC and ANSWER)". */
    private static void whoTells() {
        for (int end = 0; end < 2; end++) {
            for (int kind = 0; kind < 10; kind++) {
                if (kind == Wire.REQUEST || kind == Wire.DATA) continue;
                FlowTalk x = Wire.opened();
                long next = x.number(end, 0);
                give(x, end, 3);
                x.tick(1);
                tell(x, end, kind, next + 2, 192, 0);
                boolean tells = kind != Wire.SYNC && kind != Wire.ANSWER && kind != Wire.RESPONSE && !(kind == Wire.ASK && end == 1);
                String what = "kind " + kind + " to end " + end;
                Check.due(what + ": by ACK", x.sent(end, next + 2), tells ? 2 : 1);
                Check.due(what + ": by VECTOR", x.sent(end, next + 1), tells ? 2 : 1);
                Check.due(what + ": not told", x.sent(end, next), 1);
                Check.due(what + ": CWND", x.count(end, CWND), tells ? 5 : 3);
            }
        }
        // two VECTORS, MUST and other options between them
        FlowTalk x = Wire.opened();
        long next = x.number(0, 0);
        give(x, 0, 3);
        x.tick(1);
        Wire.silence(x);
        Wire.post(x, 0, Wire.packet(Wire.ACK, 202, next + 2, new int[] {0, 6, 4, 192, 0, 77, 5, 6, 3, 1, 1, 6, 4, 193, 0}));
        x.tick(1);
        Check.due("all three", x.sent(0, next) * 100 + x.sent(0, next + 1) * 10 + x.sent(0, next + 2), 222);
        x = Wire.opened();
        next = x.number(0, 0);
        give(x, 0, 3);
        x.tick(1);
        Wire.silence(x);
        Wire.post(x, 0, Wire.packet(Wire.ACK, 202, next + 2, new int[] {77, 5, 6, 3, 1}));
        x.tick(1);
        Check.due("a VECTOR inside another option is none", x.sent(0, next + 1), 1);
        for (int options = 0; options < 3; options++) {
            x = Wire.opened();
            next = x.number(0, 0);
            give(x, 0, 3);
            x.tick(1);
            Wire.silence(x);
            Wire.post(x, 0, Wire.packet(Wire.BOTH, 202, next + 2, new int[options], 6, 3, 2));
            x.tick(1);
            Check.due("DATA that look like a VECTOR are none", x.sent(0, next + 1) * 10 + x.count(0, CWND), 14);
        }
    }

    /** Numbers that were never sent, or are not in SENT, change nothing. */
    private static void numbersThatAreToldInVain() {
        FlowTalk x = Wire.opened();
        long next = x.number(0, 0);
        int[] all = new int[40];
        java.util.Arrays.fill(all, 63);
        told(x, 0, next - 1, all);
        is("2560 numbers told", x, 0, 0, 3, 64, 8, 0);
        give(x, 0, 3);
        x.tick(1);
        told(x, 0, next, all);
        is("one of them under way", x, 0, 2, 4, 64, 8, 0);
        Check.due("what is above ACK is not told", x.sent(0, next + 1), 1);
        told(x, 0, next + 2, all);
        is("all of them", x, 0, 0, 6, 64, 8, 0);
    }

    /** "All of this by either WAY." */
    private static void byEitherWay() {
        FlowTalk x = wayTwo(0);
        long next = x.number(0, 0);
        give(x, 0, 2);
        x.tick(1);
        told(x, 0, next);
        is("by WAY 2 CWND grows", x, 0, 1, 4, 64, 8, 0);
        silentTicks(x, 8);
        is("by WAY 2 TOO LONG", x, 0, 0, 1, 2, 16, 0);
    }

    /** "by WAY 1 PIPE is below CWND". */
    private static void pipeBelowCwnd() {
        for (int end = 0; end < 2; end++) {
            for (int n = 2; n <= 4; n++) {
                FlowTalk x = Wire.opened();
                give(x, end, n);
                x.tick(1);
                Wire.silence(x);
                Check.due("CWND 3, " + n + " given: PIPE", x.count(end, PIPE), Math.min(3, n));
                Check.due("CWND 3, " + n + " given: to send", x.count(end, TO_SEND), Math.max(0, n - 3));
                x.tick(1);
                Check.due("no more in the next tick", x.count(end, PIPE), Math.min(3, n));
            }
        }
    }

    /** "by WAY 2 fewer than two went in this tick (of either, four at most)". */
    private static void fourOrTwoInATick() {
        for (int n = 1; n <= 6; n++) {
            FlowTalk x = Wire.opened();
            long next = x.number(0, 0);
            give(x, 0, 3);
            x.tick(1);
            told(x, 0, next + 2, 2);
            Check.due("CWND", x.count(0, CWND), 6);
            give(x, 0, n);
            x.tick(1);
            Check.due(n + " given by WAY 1: they go", x.count(0, PIPE), Math.min(4, n));
            x.tick(1);
            Check.due(n + " given by WAY 1: the others too", x.count(0, PIPE), n);
            x = wayTwo(0);
            give(x, 0, n);
            silentTicks(x, 1);
            Check.due(n + " given by WAY 2: they go", x.count(0, PIPE), Math.min(2, n));
            silentTicks(x, 1);
            Check.due(n + " given by WAY 2: the others too", x.count(0, PIPE), Math.min(4, n));
        }
        // WAY is that of its own
        FlowTalk x = Wire.opened();
        x.want(0, 4, false, 1, 2);
        x.tick(3);
        Check.due("the other's WAY is 2", x.feature(0, 4, false, 0) * 10 + x.feature(0, 4, true, 0), 21);
        give(x, 0, 3);
        give(x, 1, 3);
        x.tick(1);
        Check.due("end 0 by WAY 1, end 1 by WAY 2", x.count(0, PIPE) * 10 + x.count(1, PIPE), 32);
    }
}
