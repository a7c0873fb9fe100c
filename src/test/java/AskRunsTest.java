/**
 * Promises 14 to 23, the calls that ask: for each a run of many calls, in which it is asked behind each step
 * and the other calls bear it out.
 */
public final class AskRunsTest {
    private static final int UNKNOWN = Run.UNKNOWN, OUTSIDE = Run.OUTSIDE, STATE = Run.STATE;
    private static final int[] NONE = Wire.NONE;
    private static final long ALL = 1L << 48;

    public static void main(String[] args) {
        way();
        packet();
        octet();
        state();
        number();
        feature();
        count();
        got();
        seen();
        sent();
        Check.finish();
    }

    private static int[] vector(int... rows) {
        return Wire.join(new int[] {6, 2 + rows.length}, rows);
    }

    private static void way() {
        Run r = new Run("way", 100L, 200L, 1);
        r.way(0);
        r.lose(0, UNKNOWN);
        r.listen(1);
        r.way(0);
        r.open(1);
        r.way(1);
        r.give(0, 1, 7L, 1);
        r.feed(0, 0, 0, 0, 0, 20);
        r.tick(1, 1);
        r.way(1);
        r.tick(1, 2);
        r.way(1);
        r.flies(0, 0, 4, Wire.RESPONSE);
        r.repeat(0, 0, 2);
        r.way(2);
        r.alter(1, 5, 1, 1);
        r.hold(1, 1, 5);
        r.way(2);
        r.tick(2, 4);
        r.way(3);
        r.packet(2, 0, 1);
        r.packet(3, 0, UNKNOWN);
        r.tick(1, 5);
        r.way(2);
        r.count(0, 8, 1);
        r.put(0, 20, false, 3);
        r.way(3);
        r.tick(1, 6);
        r.way(0);
        r.count(0, 8, 2);
        r.delivered(1, 0, 7);
        r.tick(2, 8);
        r.way(2);
        r.flies(0, 1, 10, Wire.SYNC);
        r.flies(1, 0, 10, Wire.ACK);
        r.close(1, Wire.ASKED);
        r.way(3);
        r.lose(0, 2);
        r.way(2);
        r.tick(2, 10);
        r.way(1);
        r.flies(0, 1, 12, Wire.CLOSE);
        r.sent(0, 102, 2);
        r.tick(2, 12);
        r.way(1);
        r.tick(2, 14);
        r.way(0);
        r.states(Wire.WAIT, Wire.CLOSED);
        r.counts(0, 6, 5, 6);
        r.counts(1, 6, 4, 4);
        r.end();
    }

    private static void packet() {
        Run r = new Run("packet", 100L, 200L, 4);
        r.packet(0, 0, UNKNOWN);
        r.listen(1);
        r.open(1);
        sized(r, 0, 1, 5, 10);
        r.packet(0, 3, OUTSIDE);
        r.packet(0, -1, OUTSIDE);
        r.packet(1, 3, UNKNOWN);
        r.hold(0, 2, 7);
        sized(r, 0, 1, 7, 10);
        r.tick(4, 4);
        sized(r, 1, 1, 9, 10);
        r.tick(3, 7);
        sized(r, 0, 1, 9, 10);
        sized(r, 1, 0, 12, 16);
        r.repeat(1, 3, 3);
        sized(r, 2, 0, 15, 16);
        r.lose(0, 2);
        sized(r, 0, 0, 12, 16);
        sized(r, 1, 0, 15, 16);
        r.packet(2, 2, UNKNOWN);
        r.give(0, 40, 1L, 1);
        r.want(0, 3, true, 2, 0x0100, 1);
        r.tick(5, 12);
        // the RESPONSE came at 12, when a third REQUEST would have been due: an ACK and a BOTH went instead
        sized(r, 1, 1, 17, 16 + 8);
        sized(r, 2, 1, 17, 16 + 8 + 40);
        r.feed(1, 2, 3, 4, 5, 20);
        r.put(0, 17, true, 4);
        sized(r, 3, 0, 13, 17);
        r.tick(1, 13);
        r.count(0, 8, 1);
        r.tick(2, 15);
        r.flies(2, 1, 20, Wire.packet(Wire.ACK, 104, 200, Wire.join(new int[] {2, 5, 3, 0, 1}, vector(0))));
        r.tick(2, 17);
        r.count(1, 11, 1);
        sized(r, 2, 0, 22, 16 + 12 + 5);
        r.agreed(1, 3, false, 1, 0, 1, 0);
        r.packet(-1, 0, UNKNOWN);
        r.packet(Integer.MAX_VALUE, 0, UNKNOWN);
        r.end();
    }

    /** Of packet i: to which end, when, how many bytes; and the byte behind the last is not there. */
    private static void sized(Run r, int i, int to, int when, int size) {
        r.packet(i, 0, to);
        r.packet(i, 1, when);
        r.packet(i, 2, size);
        r.octet(i, size, UNKNOWN);
    }

    private static void octet() {
        Run r = new Run("octet", 100L, 200L, 0);
        r.octet(0, 0, UNKNOWN);
        r.listen(1);
        r.open(1);
        r.flies(0, 1, 1, Wire.packet(Wire.REQUEST, 100, 0, NONE));
        r.octet(0, 10, UNKNOWN);
        r.octet(0, -1, UNKNOWN);
        r.octet(1, 0, UNKNOWN);
        r.tick(1, 1);
        r.flies(0, 0, 2, Wire.packet(Wire.RESPONSE, 200, 100, NONE));
        r.tick(1, 2);
        r.flies(0, 1, 3, Wire.packet(Wire.ACK, 101, 200, vector(0)));
        r.tick(4, 6);
        r.flies(0, 1, 7, Wire.packet(Wire.SYNC, 102, 200, NONE));
        r.tick(1, 7);
        r.flies(0, 0, 8, Wire.packet(Wire.ANSWER, 201, 102, NONE));
        r.tick(1, 8);
        r.want(0, 1, true, 1, 50, 1);
        r.give(0, 2, 0x0201L, 1);
        r.give(0, 1, 9L, 2);
        r.tick(1, 9);
        int[] change = {2, 4, 1, 50};
        r.flies(0, 1, 10, Wire.packet(Wire.BOTH, 103, 201, Wire.join(change, vector(1)), 1, 3));
        r.flies(1, 1, 10, Wire.packet(Wire.DATA, 104, 0, NONE, 9));
        r.tick(1, 10);
        int[] confirm = {5, 4, 1, 50};
        r.flies(0, 0, 11, Wire.packet(Wire.ACK, 202, 104, Wire.join(confirm, vector(4))));
        r.close(1, Wire.ASKED);
        r.flies(1, 0, 11, Wire.packet(Wire.ASK, 203, 104, NONE));
        r.tick(1, 11);
        r.flies(0, 1, 12, Wire.packet(Wire.CLOSE, 105, 203, NONE));
        r.tick(1, 12);
        r.flies(0, 0, 13, Wire.reset(204, 105, 0));
        r.alter(0, 16, 5, 5);
        r.octet(0, 16, 5);
        r.tick(1, 13);
        r.count(0, 8, 1);
        r.agreed(0, 1, true, 50, 0, 50);
        r.end();
    }

    private static void state() {
        Run r = new Run("state", 100L, 200L, 0);
        r.state(2, UNKNOWN);
        r.state(-1, UNKNOWN);
        r.states(Wire.CLOSED, Wire.CLOSED);
        r.listen(1);
        r.states(Wire.CLOSED, Wire.LISTEN);
        r.open(1);
        r.states(Wire.REQUESTED, Wire.LISTEN);
        r.tick(1, 1);
        r.states(Wire.REQUESTED, Wire.RESPOND);
        r.tick(1, 2);
        r.states(Wire.PARTOPEN, Wire.RESPOND);
        r.tick(1, 3);
        r.states(Wire.PARTOPEN, Wire.OPEN);
        r.tick(5, 8);
        r.states(Wire.OPEN, Wire.OPEN);
        r.close(1, Wire.ASKED);
        r.states(Wire.OPEN, Wire.ASKED);
        r.tick(1, 9);
        r.states(Wire.CLOSING, Wire.ASKED);
        r.tick(1, 10);
        r.states(Wire.CLOSING, Wire.CLOSED);
        r.tick(1, 11);
        r.states(Wire.WAIT, Wire.CLOSED);
        r.open(STATE);
        r.tick(11, 22);
        r.states(Wire.WAIT, Wire.CLOSED);
        r.tick(1, 23);
        r.states(Wire.CLOSED, Wire.CLOSED);
        r.counts(0, 14, -1, 0);
        r.counts(1, 14, 0, -1);
        r.open(1);
        r.tick(1, 24);
        r.states(Wire.REQUESTED, Wire.CLOSED);
        r.flies(0, 0, 25, Wire.reset(204, 103, 1));
        // its ACK is BEFORE FIRST: it is not heard
        r.tick(1, 25);
        r.states(Wire.REQUESTED, Wire.CLOSED);
        r.comes(0, 1, Wire.reset(205, 104, 6));
        r.tick(1, 26);
        r.states(Wire.CLOSED, Wire.CLOSED);
        r.count(0, 15, 6);
        r.numbers(0, 105, 104, 0, 0, 0, -1);
        r.end();
    }

    private static void number() {
        long a = ALL - 2, b = ALL - 1;
        Run r = new Run("number", a, b, 0);
        r.number(2, 0, UNKNOWN);
        r.number(0, 6, OUTSIDE);
        r.number(0, -1, OUTSIDE);
        r.numbers(0, a, a, 0, 0, 0, -1);
        r.listen(1);
        r.open(1);
        r.numbers(0, a + 1, a, 0, 0, 0, -1);
        r.tick(1, 1);
        r.numbers(1, 0, b, a, a, a, -1);
        r.tick(1, 2);
        r.numbers(0, 0, a, b, b, b, -1);
        r.tick(6, 8);
        r.numbers(0, 1, a, 0, b, b, -1);
        r.numbers(1, 1, b, 0, a, a, -1);
        r.give(1, 1, 1L, 1);
        r.tick(4, 12);
        r.flies(0, 1, 13, Wire.packet(Wire.ACK, 1, 1, vector(2)));
        r.tick(1, 13);
        r.give(0, 1, 5L, 1);
        r.tick(4, 17);
        r.flies(0, 0, 18, Wire.packet(Wire.ACK, 2, 2, vector(4)));
        r.numbers(0, 3, a, 1, b, b, -1);
        r.tick(1, 18);
        r.numbers(0, 3, a, 2, b, 2, -1);
        r.give(0, 1, 6L, 1);
        r.tick(1, 19);
        r.lose(0, 0);
        r.tick(8, 27);
        r.numbers(0, 4, a, 2, b, 2, 3);
        r.sentFrom(0, a, 0, 0, 0, 0, 2, 3, -1);
        r.close(0, Wire.CLOSING);
        r.tick(1, 28);
        r.numbers(1, 4, b, 4, a, 3, -1);
        r.seenFrom(1, a, 1, 1, 1, 1, 1, 0, 1, -1);
        r.tick(13, 41);
        r.state(0, Wire.CLOSED);
        r.numbers(0, 5, a, 3, b, 2, 3);
        r.open(1);
        r.numbers(0, 6, 5, 0, 0, 0, -1);
        r.listen(1);
        r.numbers(1, 4, 4, 0, 0, 0, -1);
        r.end();
    }

    private static void feature() {
        Run r = Run.opened("feature");
        r.feature(2, 1, true, 0, UNKNOWN);
        r.feature(0, 5, true, 0, UNKNOWN);
        r.feature(0, 1, true, 6, OUTSIDE);
        r.allAsAtFirst(0);
        r.want(0, 3, true, 1, 0, 1);
        r.want(1, 3, false, 1, 1, 1);
        r.agreed(0, 3, true, 1, 1, 0);
        r.agreed(1, 3, false, 1, 1, 1);
        r.tick(2, 10);
        r.flies(0, 1, 11, Wire.packet(Wire.ACK, 104, 202, Wire.join(new int[] {3, 5, 3, 1, 0, 2, 4, 3, 0}, vector(1))));
        r.flies(1, 0, 11, Wire.packet(Wire.ACK, 203, 103, Wire.join(new int[] {5, 5, 3, 1, 1, 4, 4, 3, 1}, vector(3))));
        r.tick(1, 11);
        r.agreed(0, 3, true, 1, 0, 0);
        r.agreed(1, 3, false, 1, 0, 1);
        r.tick(2, 13);
        r.way(0);
        r.want(1, 1, true, 1, 255, 1);
        r.agreed(1, 1, true, 100, 1, 255);
        r.tick(2, 15);
        r.agreed(0, 1, false, 255, 0, 100);
        r.agreed(1, 1, true, 100, 1, 255);
        r.tick(1, 16);
        r.agreed(1, 1, true, 255, 0, 255);
        r.want(0, 2, true, 1, 20, 1);
        r.tick(1, 17);
        r.octet(0, 18, 2);
        r.lose(0, 0);
        r.number(0, 2, 205);
        r.comes(0, 1, Wire.packet(Wire.ACK, 206, 106, new int[] {5, 3, 2}));
        r.tick(1, 18);
        r.agreed(0, 2, true, 2, 0, 20);
        r.agreed(1, 2, false, 2, 0, 2);
        r.count(0, 12, 0);
        // 1 of the own LIST and the other's is 1: a VALUE of 2 is REFUSED
        r.want(0, 4, true, 1, 1, 1);
        r.comes(0, 1, Wire.packet(Wire.ACK, 207, 106, new int[] {5, 5, 4, 2, 1}));
        r.tick(1, 19);
        r.agreed(0, 4, true, 1, 1, 1);
        r.states(Wire.CLOSED, Wire.OPEN);
        r.count(0, 14, 4);
        r.open(1);
        r.agreed(0, 4, true, 1, 0, 1, 2);
        r.agreed(0, 1, false, 100, 0, 100);
        r.end();
    }

    private static void count() {
        Run r = Run.opened("count");
        r.count(2, 0, UNKNOWN);
        r.count(0, 16, OUTSIDE);
        r.counts(0, 0, 0, 3, 64, 8, 0, 0, 3, 2, 0, 0, 0, 0, 0, 0, -1, -1);
        r.counts(1, 0, 0, 3, 64, 8, 0, 0, 2, 3, 0, 0, 0, 0, 0, 0, -1, -1);
        for (int i = 1; i <= 5; i++) r.give(0, 1, i, i);
        r.count(0, 5, 5);
        r.tick(1, 9);
        r.counts(0, 0, 3, 3, 64, 8, 0, 2, 6, 2);
        r.lose(0, 2);
        r.tick(2, 11);
        r.counts(0, 0, 3, 5, 64, 8, 0, 0, 8, 3);
        r.tick(2, 13);
        r.counts(0, 0, 0, 3, 3, 8, 0, 0, 8, 4);
        r.sentFrom(0, 103, 3, 2, 2, 2, 2, -1);
        r.number(0, 5, 107);
        r.give(0, 1, 6L, 1);
        r.give(0, 1, 7L, 2);
        r.tick(3, 16);
        r.counts(0, 0, 0, 3, 3, 8, 2, 0, 10, 5);
        r.give(0, 1, 8L, 1);
        r.tick(5, 21);
        r.counts(0, 0, 0, 4, 3, 8, 0, 0, 11, 6);
        r.give(0, 1, 9L, 1);
        r.tick(1, 22);
        r.lose(0, 0);
        r.tick(7, 29);
        r.counts(0, 0, 1, 4, 3, 8);
        r.tick(1, 30);
        r.counts(0, 0, 0, 1, 2, 16, 0, 0, 12, 6);
        r.counts(1, 6, 6, 10, 0, 0, 0, 7);
        countsWhatIsWrong(r);
        r.end();
    }

    private static void countsWhatIsWrong(Run r) {
        r.put(1, 0, false, 1);
        r.put(1, 0, true, 2);
        r.comes(1, 3, Wire.packet(Wire.DATA, 5000, 0, NONE));
        r.comes(1, 4, Wire.packet(Wire.DATA, 110, 0, NONE));
        r.tick(1, 31);
        r.counts(1, 6, 7, 14, 2, 1, 1, 7);
        r.tick(1, 32);
        r.counts(0, 6, 12, 7, 0, 1, 0, 0);
        r.want(0, 2, true, 1, 9, 1);
        r.want(0, 3, false, 1, 0, 2);
        r.count(0, 12, 2);
        r.tick(2, 34);
        r.counts(0, 12, 2, 0);
        r.counts(1, 12, 0, 0);
        r.tick(1, 35);
        r.counts(0, 12, 0, 0);
        r.agreed(1, 2, false, 9, 0, 2);
        r.comes(1, 1, Wire.packet(Wire.ACK, 111, 207, new int[] {2, 4, 7, 1, 1}));
        r.tick(1, 36);
        r.state(1, Wire.CLOSED);
        r.counts(1, 12, 0, 1, 3, -1);
        r.tick(1, 37);
        r.state(0, Wire.WAIT);
        r.counts(0, 12, 0, 0, -1, 3);
        r.tick(12, 49);
        r.open(1);
        r.counts(0, 0, 0, 3, 64, 8, 0, 0, 14, 9, 0, 1, 0, 0, 0, 0, -1, 3);
        r.listen(1);
        r.counts(1, 0, 0, 3, 64, 8, 0, 0, 9, 16, 2, 1, 1, 7, 0, 0, 3, -1);
    }

    private static void got() {
        Run r = Run.opened("got");
        r.got(2, 0, -1, UNKNOWN);
        r.got(1, 0, -1, UNKNOWN);
        for (int i = 0; i < 45; i++) {
            int[] data = new int[i % 5];
            for (int k = 0; k < data.length; k++) data[k] = 5 * i + k;
            r.comes(1, 1 + i % 5, Wire.packet(Wire.DATA, 103 + i, 0, NONE, data));
            if (i % 5 < 4) continue;
            r.tick(1, 9 + i / 5);
            r.lose(0, 0);
            r.count(1, 11, i + 1);
            r.got(1, i, 3, 5 * i + 3);
            r.got(1, i + 1, -1, UNKNOWN);
        }
        r.got(1, 4, -1, UNKNOWN);
        r.got(1, -1, -1, UNKNOWN);
        for (int i = 5; i < 45; i++) {
            r.got(1, i, -1, i % 5);
            r.got(1, i, i % 5 - 1, i % 5 == 0 ? 0 : 5 * i + i % 5 - 1);
            r.got(1, i, i % 5, UNKNOWN);
        }
        r.got(1, 9, -2, UNKNOWN);
        r.got(0, 44, -1, UNKNOWN);
        r.number(1, 2, 147);
        r.comes(1, 1, Wire.packet(Wire.DATA, 147, 0, NONE, 1));
        r.tick(1, 18);
        r.count(1, 10, 1);
        r.got(1, 45, -1, UNKNOWN);
        r.got(1, 5, -1, 0);
        // what was DELIVERED stays when the end listens anew
        r.comes(1, 1, Wire.reset(148, 200, 2));
        r.tick(13, 31);
        r.listen(1);
        r.got(1, 44, 2, 222);
        r.count(1, 11, 45);
        r.end();
    }

    private static void seen() {
        Run r = Run.opened("seen");
        r.seen(2, 0, UNKNOWN);
        r.seenFrom(1, 99, 0, 1, 1, 1, -1);
        r.seenFrom(0, 199, 0, 1, 1, -1);
        long[] jumps = {177, 252, 327, 402};
        int time = 8;
        for (long n : jumps) {
            r.comes(1, 1, Wire.packet(Wire.DATA, n + 1, 0, NONE));
            r.comes(1, 2, Wire.packet(Wire.DATA, n, 0, NONE));
            r.tick(1, ++time);
            r.seenFrom(1, n - 1, 0, 1, -1);
            r.number(1, 2, n);
            // one number too far brought a SYNC, every second DATA an ACK: they are lost
            r.octet(0, 0, Wire.SYNC);
            if (time % 2 == 0) r.lose(1, 1);
            r.lose(0, 0);
        }
        r.count(1, 9, 4);
        r.seenFrom(1, 145, -1, -1, 0, 0);
        r.seen(1, 102, -1);
        r.seen(1, 176, 0);
        r.seen(1, 177, 1);
        r.seen(1, 252, 1);
        r.seen(1, 327, 1);
        r.comes(1, 1, Wire.packet(Wire.DATA, 378, 0, NONE, 4));
        r.comes(1, 2, Wire.packet(Wire.DATA, 377, 0, NONE, 5));
        r.tick(1, 13);
        r.seenFrom(1, 376, 0, 0, 1, 0);
        r.number(1, 2, 402);
        r.delivered(1, 4, 4);
        r.counts(1, 9, 5, 0, 5);
        for (long around = -2; around <= 2; around++) {
            r.seen(1, 402 + around * ALL, 1);
            r.seen(1, 401 + around * ALL, 0);
            r.seen(1, 403 + around * ALL, -1);
        }
        r.seen(1, Long.MAX_VALUE, -1);
        r.seen(1, Long.MIN_VALUE, -1);
        r.end();
    }

    private static void sent() {
        Run r = Run.opened("sent");
        r.sent(2, 100, UNKNOWN);
        r.sentFrom(0, 99, -1, 0, 0, 0, -1);
        int time = 8;
        for (int round = 0; round < 13; round++) {
            for (int i = 1; i <= 20; i++) r.give(0, 1, i, i);
            time += 10;
            r.tick(10, time);
            r.count(0, 5, 0);
            r.number(0, 0, 123 + 20 * round);
        }
        r.counts(0, 0, 0, 60, 64, 8);
        r.sentFrom(0, 105, -1, -1, -1, 2, 2);
        r.sentFrom(0, 361, 2, 2, -1, -1);
        for (int i = 1; i <= 5; i++) r.give(0, 1, i, i);
        r.tick(1, 139);
        r.sentFrom(0, 363, 1, 1, 1, 1, -1);
        r.sentFrom(0, 110, -1, -1, 2);
        r.lose(0, 3);
        r.tick(1, 140);
        r.sentFrom(0, 363, 1, 1, 1, 1, 1, -1);
        r.tick(1, 141);
        r.sentFrom(0, 363, 3, 2, 2, 2, 1, -1);
        r.counts(0, 0, 1, 30, 30, 8);
        r.number(0, 5, 367);
        r.tick(3, 144);
        r.sentFrom(0, 363, 3, 2, 2, 2, 2, -1);
        r.seenFrom(1, 362, 1, 0, 1, 1, 1, 1, -1);
        r.sent(0, 364 + ALL, 2);
        r.sent(0, 363 - ALL, 3);
        r.sent(0, Long.MIN_VALUE, -1);
        r.end();
    }
}
