/** Part 5: PIPE, CWND, EDGE, RTO, GROWN, RECOVER, and what is LOST. */
public final class WindowTest {
    public static void main(String[] args) {
        growing();
        growingSlowly();
        sixtyAtMost();
        lost();
        lostOnceAWindow();
        lostAndToldLater();
        tooLong();
        tooLongTwice();
        wayTwo();
        fourAtMost();
        notBySync();
        outOfSent();
        Check.finish();
    }

    private static void is(String what, FlowTalk x, int pipe, int cwnd, int edge, int rto, int grown) {
        int[] want = {pipe, cwnd, edge, rto, grown};
        String[] names = {"PIPE", "CWND", "EDGE", "RTO", "GROWN"};
        for (int i = 0; i < 5; i++) Check.due(what + ": " + names[i], x.count(0, i), want[i]);
    }

    private static void give(FlowTalk x, int n) {
        for (int i = 0; i < n; i++) x.give(0, 1, i);
    }

    /** End 0 is told by an ACK; all else on the way is lost before and behind. */
    private static void told(FlowTalk x, long ack, int... rows) {
        int[] options = rows.length == 0 ? Wire.NONE : Wire.join(new int[] {6, 2 + rows.length}, rows);
        Wire.silence(x);
        Wire.post(x, 0, Wire.packet(Wire.ACK, x.number(0, 2) + 1, ack, options));
        x.tick(1);
        Wire.silence(x);
    }

    private static void growing() {
        FlowTalk x = Wire.opened();
        give(x, 8);
        x.tick(1);
        is("three go", x, 3, 3, 64, 8, 0);
        Check.due("five stay", x.count(0, 5), 5);
        told(x, 104);
        Check.due("104 is told", x.sent(0, 104), 2);
        is("one told, two more go", x, 4, 4, 64, 8, 0);
        told(x, 106, 0, 192, 1);
        Check.due("103 is told", x.sent(0, 103), 2);
        Check.due("105 is not", x.sent(0, 105), 1);
        is("two told, one of them again; three more go", x, 5, 6, 64, 8, 0);
    }

    private static void growingSlowly() {
        FlowTalk x = Wire.opened();
        give(x, 3);
        x.tick(1);
        Wire.silence(x);
        x.tick(8);
        is("TOO LONG", x, 0, 1, 2, 16, 0);
        give(x, 20);
        x.tick(1);
        told(x, 106);
        is("CWND below EDGE grows", x, 2, 2, 2, 8, 0);
        told(x, 107);
        is("at EDGE, GROWN does", x, 2, 2, 2, 8, 1);
        told(x, 108);
        is("GROWN is CWND: CWND grows", x, 3, 3, 2, 8, 0);
    }

    private static void sixtyAtMost() {
        FlowTalk x = Wire.opened();
        for (int i = 0; i < 60; i++) {
            give(x, 4);
            x.tick(1);
        }
        Check.due("CWND 60 at most", x.count(0, 1), 60);
        Check.due("EDGE stays", x.count(0, 2), 64);
    }

    private static void lost() {
        lost(Wire.opened(), 100);
        FlowTalk x = new FlowTalk(-10L, 200L, 0);
        x.listen();
        x.open();
        x.tick(8);
        // RECOVER is 0 in this one
        lost(x, -10);
    }

    private static void lost(FlowTalk x, long first) {
        give(x, 3);
        x.tick(1);
        told(x, first + 5, 2);
        is("three told", x, 0, 6, 64, 8, 0);
        give(x, 5);
        x.tick(2);
        is("five go", x, 5, 6, 64, 8, 0);
        told(x, first + 7, 0);
        told(x, first + 9, 0);
        Check.due("two behind it: not LOST", x.sent(0, first + 6), 1);
        Check.due("no RECOVER", x.number(0, 5), -1);
        told(x, first + 10, 0);
        Check.due("three behind it: LOST", x.sent(0, first + 6), 3);
        Check.due("the next one has two", x.sent(0, first + 8), 1);
        is("halved, from 9", x, 1, 4, 4, 8, 0);
        Check.due("RECOVER is NEXT - 1", x.number(0, 5), first + 10);
        give(x, 1);
        x.tick(1);
        told(x, first + 11);
        Check.due("three behind that: LOST", x.sent(0, first + 8), 3);
        is("not AFTER RECOVER: not halved", x, 0, 4, 4, 8, 1);
    }

    private static void lostOnceAWindow() {
        FlowTalk x = Wire.opened();
        give(x, 3);
        x.tick(1);
        told(x, 105, 2);
        give(x, 7);
        x.tick(2);
        Check.due("six are under way", x.count(0, 0), 6);
        told(x, 111, 2);
        Check.due("106 .. 108 are LOST together", x.sent(0, 106) * 100 + x.sent(0, 107) * 10 + x.sent(0, 108), 333);
        is("halved once, from 9; the seventh goes", x, 1, 4, 4, 8, 0);
        Check.due("RECOVER", x.number(0, 5), 111);
        give(x, 4);
        x.tick(1);
        told(x, 115, 2);
        Check.due("112 is AFTER RECOVER: LOST", x.sent(0, 112), 3);
        Check.due("RECOVER moves", x.number(0, 5) > 111 ? 1 : 0, 1);
        Check.due("halved again", x.count(0, 2), 2);
    }

    private static void lostAndToldLater() {
        FlowTalk x = Wire.opened();
        give(x, 3);
        x.tick(1);
        Wire.silence(x);
        x.tick(8);
        is("TOO LONG", x, 0, 1, 2, 16, 0);
        told(x, 104, 1);
        Check.due("LOST, then told", x.sent(0, 104) * 10 + x.sent(0, 103), 22);
        is("nothing else", x, 0, 1, 2, 16, 0);
        Check.due("the third one stays LOST", x.sent(0, 105), 3);
    }

    private static void tooLong() {
        FlowTalk x = Wire.opened();
        give(x, 2);
        x.tick(1);
        Wire.silence(x);
        x.tick(7);
        is("7 ticks ago", x, 2, 3, 64, 8, 0);
        x.tick(1);
        is("8 ticks ago", x, 0, 1, 2, 16, 0);
        Check.due("LOST", x.sent(0, 103) * 10 + x.sent(0, 104), 33);
        Check.due("RECOVER", x.number(0, 5), 104);
        x = Wire.opened();
        give(x, 1);
        x.tick(1);
        Wire.silence(x);
        x.tick(3);
        give(x, 1);
        x.tick(1);
        Wire.silence(x);
        x.tick(4);
        Check.due("the CLOCK is the first one's", x.count(0, 3), 16);
        x = Wire.opened();
        give(x, 2);
        x.tick(1);
        Wire.silence(x);
        x.tick(4);
        told(x, 103);
        x.tick(7);
        Check.due("the CLOCK is the told one's", x.count(0, 3), 8);
        x.tick(1);
        Check.due("8 ticks behind that", x.count(0, 3), 16);
    }

    private static void tooLongTwice() {
        FlowTalk x = Wire.opened();
        int[] rto = {8, 16, 32, 64, 64};
        for (int i = 0; i < rto.length; i++) {
            Check.due("RTO", x.count(0, 3), rto[i]);
            give(x, 1);
            x.tick(1);
            Wire.silence(x);
            for (int t = 1; t < rto[i]; t++) x.tick(1);
            Check.due("not yet", x.count(0, 0), 1);
            x.tick(1);
            Check.due("TOO LONG", x.count(0, 0), 0);
        }
        Check.due("RTO 64 at most", x.count(0, 3), 64);
        Check.due("CWND and EDGE at least", x.count(0, 1) * 10 + x.count(0, 2), 12);
        give(x, 1);
        x.tick(1);
        told(x, x.number(0, 0) - 1);
        Check.due("told: RTO is 8", x.count(0, 3), 8);
        x = Wire.opened();
        give(x, 1);
        x.tick(1);
        x.close(0);
        Wire.silence(x);
        x.tick(20);
        Check.due("not in CLOSING", x.count(0, 0) * 100 + x.count(0, 3), 108);
    }

    private static void wayTwo() {
        FlowTalk x = Wire.opened();
        x.want(0, 4, true, 1, 2);
        x.tick(3);
        Check.due("WAY 2", x.feature(0, 4, true, 0), 2);
        give(x, 20);
        for (int i = 1; i <= 5; i++) {
            x.tick(1);
            Wire.silence(x);
            Check.due("two a tick, whatever CWND is", x.count(0, 0), 2 * i);
        }
        Check.due("CWND", x.count(0, 1), 3);
        for (int i = 0; i < 3; i++) {
            x.tick(1);
            Wire.silence(x);
        }
        Check.due("not yet TOO LONG", x.count(0, 3), 8);
        x.tick(1);
        Check.due("TOO LONG by WAY 2", x.count(0, 3), 16);
    }

    private static void fourAtMost() {
        FlowTalk x = Wire.opened();
        give(x, 3);
        x.tick(1);
        told(x, 105, 2);
        give(x, 6);
        x.tick(1);
        Check.due("CWND 6, but four a tick", x.count(0, 0), 4);
        x.tick(1);
        Check.due("the others in the next one", x.count(0, 0), 6);
    }

    private static void notBySync() {
        for (int kind : new int[] {Wire.SYNC, Wire.ANSWER, Wire.ACK, Wire.BOTH, Wire.RESET, Wire.ASK}) {
            FlowTalk x = Wire.opened();
            give(x, 1);
            x.tick(1);
            Wire.silence(x);
            int[] p = kind == Wire.RESET ? Wire.reset(202, 103, 1) : Wire.packet(kind, 202, 103, Wire.NONE);
            Wire.post(x, 0, p);
            x.tick(1);
            boolean tells = kind != Wire.SYNC && kind != Wire.ANSWER;
            Check.due("told by kind " + kind, x.sent(0, 103), tells ? 2 : 1);
        }
    }

    /** A number that is UNDER WAY when it comes to be 256 behind NEXT counts in PIPE no more. */
    private static void outOfSent() {
        FlowTalk x = Wire.opened();
        give(x, 1);
        x.tick(1);
        Wire.silence(x);
        for (int k = 0; k < 6; k++) {
            for (int i = 0; i < 50; i++) {
                Wire.post(x, 0, Wire.packet(Wire.SYNC, x.number(0, 2) + 1 + i, x.number(0, 0) - 1, Wire.NONE));
            }
            x.tick(1);
            Wire.silence(x);
            Check.due("PIPE when NEXT is " + x.number(0, 0), x.count(0, 0), x.number(0, 0) - 103 < 256 ? 1 : 0);
        }
        Check.due("300 ANSWERS", x.number(0, 0), 404);
        Check.due("it was not TOO LONG", x.count(0, 3), 8);
    }
}
