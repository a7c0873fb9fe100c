/**
 * Promises 1 to 13, the calls that do something: for each a run of many calls, in which the calls that ask
 * (promises 14 to 23) tell what it did.
 */
public final class RunsTest {
    private static final int UNKNOWN = Run.UNKNOWN, OUTSIDE = Run.OUTSIDE, STATE = Run.STATE, ROOM = Run.ROOM;
    private static final int[] NONE = Wire.NONE;
    private static final long LAST = (1L << 48) - 1;

    public static void main(String[] args) {
        newObject();
        open();
        listen();
        close();
        give();
        want();
        tick();
        lose();
        hold();
        repeat();
        alter();
        feed();
        put();
        Check.finish();
    }

    private static int[] vector(int... rows) {
        return Wire.join(new int[] {6, 2 + rows.length}, rows);
    }

    private static void newObject() {
        Run r = new Run("a new object", -1L, (1L << 48) + 7, -1);
        Run other = new Run("another one", 5L, 6L, 0);
        r.way(0);
        r.packet(0, 0, UNKNOWN);
        r.octet(0, 0, UNKNOWN);
        r.states(Wire.CLOSED, Wire.CLOSED);
        r.numbers(0, LAST, LAST, 0, 0, 0, -1);
        r.numbers(1, 7, 7, 0, 0, 0, -1);
        for (int end = 0; end < 2; end++) {
            r.allAsAtFirst(end);
            r.counts(end, 0, 0, 3, 64, 8, 0, 0, 0, 0, 0, 0, 0, 0, 0, 0, -1, -1);
            r.got(end, 0, -1, UNKNOWN);
        }
        r.seenFrom(0, LAST - 1, -1, -1, -1);
        r.sentFrom(0, LAST - 1, -1, -1, -1);
        r.put(0, 1, true, OUTSIDE);
        r.feed(1, 2, 3, 4, 5, 20);
        r.tick(1, 1);
        r.listen(1);
        r.open(1);
        r.flies(0, 1, 6, Wire.packet(Wire.REQUEST, LAST, 0, NONE));
        r.numbers(0, 0, LAST, 0, 0, 0, -1);
        r.tick(4, 5);
        r.count(1, 7, 0);
        r.way(2);
        r.tick(1, 6);
        r.states(Wire.REQUESTED, Wire.RESPOND);
        r.numbers(1, 8, 7, LAST, LAST, LAST, -1);
        r.seenFrom(1, LAST - 1, 0, 1, -1);
        r.sentFrom(1, 6, -1, 0, -1);
        r.tick(4, 10);
        r.flies(0, 0, 11, Wire.packet(Wire.RESPONSE, 7, LAST, NONE));
        r.flies(1, 0, 15, Wire.packet(Wire.RESPONSE, 8, 0, NONE));
        r.tick(1, 11);
        r.state(0, Wire.PARTOPEN);
        r.numbers(0, 2, LAST, 7, 7, 7, -1);
        r.tick(5, 16);
        r.states(Wire.PARTOPEN, Wire.OPEN);
        r.numbers(1, 9, 7, 1, LAST, LAST, -1);
        r.seenFrom(1, LAST, 1, 1, 1, -1);
        r.end();
        anotherIsAsItWas(other);
    }

    private static void anotherIsAsItWas(Run other) {
        other.tick(1, 1);
        other.way(0);
        other.states(Wire.CLOSED, Wire.CLOSED);
        other.number(0, 0, 5);
        other.number(1, 0, 6);
        other.count(1, 7, 0);
        other.put(0, 1, true, OUTSIDE);
    }

    private static void open() {
        Run r = new Run("open", 50L, 80L, 0);
        r.open(1);
        r.open(STATE);
        r.flies(0, 1, 1, Wire.packet(Wire.REQUEST, 50, 0, NONE));
        r.way(1);
        r.state(0, Wire.REQUESTED);
        r.numbers(0, 51, 50, 0, 0, 0, -1);
        r.counts(0, 0, 0, 3, 64, 8, 0, 0, 1, 0, 0, 0, 0, 0, 0, 0, -1, -1);
        r.sentFrom(0, 49, -1, 0, -1);
        r.seen(0, 0, -1);
        r.give(0, 3, 0x030201L, 1);
        r.give(0, 0, 0L, 2);
        r.want(0, 2, true, 1, 5, 1);
        r.listen(1);
        r.tick(2, 2);
        int[] options = Wire.join(new int[] {2, 4, 2, 5}, vector(0));
        r.flies(0, 1, 3, Wire.packet(Wire.ACK, 51, 80, options));
        r.flies(1, 1, 3, Wire.packet(Wire.BOTH, 52, 80, options, 1, 3, 5));
        r.flies(2, 1, 3, Wire.BOTH);
        r.counts(0, 0, 2, 3, 64, 8, 0, 0, 4, 1, 0, 0, 0, 0, 1, 0, -1, -1);
        r.sentFrom(0, 50, 0, 0, 1, 1, -1);
        for (int left = 2; left >= 0; left--) r.lose(0, left);
        r.comes(0, 1, Wire.reset(81, 53, 7));
        r.tick(1, 3);
        r.state(0, Wire.WAIT);
        r.numbers(0, 54, 50, 81, 80, 81, -1);
        r.counts(0, 0, 1, 4, 64, 8, 0, 0, 4, 2, 0, 0, 0, 0, 1, 0, -1, 7);
        r.tick(11, 14);
        r.open(STATE);
        r.tick(1, 15);
        r.state(0, Wire.CLOSED);
        opensAnew(r);
        r.end();
    }

    private static void opensAnew(Run r) {
        r.open(1);
        r.flies(0, 1, 16, Wire.packet(Wire.REQUEST, 54, 0, NONE));
        r.numbers(0, 55, 54, 0, 0, 0, -1);
        r.counts(0, 0, 0, 3, 64, 8, 0, 0, 5, 2, 0, 0, 0, 0, 0, 0, -1, 7);
        r.allAsAtFirst(0);
        r.sentFrom(0, 52, -1, -1, 0, -1);
        r.seen(0, 81, -1);
        r.tick(3, 18);
        r.states(Wire.PARTOPEN, Wire.OPEN);
        r.numbers(0, 56, 54, 81, 81, 81, -1);
        r.numbers(1, 82, 80, 55, 50, 50, -1);
        r.seenFrom(1, 49, 0, 1, 0, 0, 0, 1, 1, -1);
    }

    private static void listen() {
        Run r = new Run("listen", 50L, 80L, 0);
        r.open(1);
        r.tick(1, 1);
        r.flies(0, 0, 2, Wire.reset(80, 0, 1));
        r.sentFrom(1, 79, -1, 0, -1);
        r.listen(1);
        r.listen(STATE);
        r.state(1, Wire.LISTEN);
        r.numbers(1, 81, 81, 0, 0, 0, -1);
        r.sentFrom(1, 79, -1, -1, -1);
        r.counts(1, 6, 1, 1, 0, 0, 0, 0, 0, 0, 1, -1);
        r.tick(1, 2);
        r.states(Wire.REQUESTED, Wire.LISTEN);
        r.tick(3, 5);
        r.state(1, Wire.RESPOND);
        r.listen(STATE);
        r.numbers(1, 82, 81, 51, 51, 51, -1);
        r.tick(2, 7);
        r.states(Wire.PARTOPEN, Wire.OPEN);
        r.give(1, 2, 0x0605L, 1);
        r.tick(1, 8);
        r.flies(0, 0, 9, Wire.packet(Wire.DATA, 82, 0, NONE, 5, 7));
        r.tick(1, 9);
        r.delivered(0, 0, 5, 7);
        r.tick(2, 11);
        r.flies(0, 1, 12, Wire.packet(Wire.ACK, 53, 82, vector(1)));
        r.tick(1, 12);
        r.counts(1, 0, 0, 4, 64, 8, 0);
        r.close(1, Wire.ASKED);
        r.tick(2, 14);
        r.states(Wire.CLOSING, Wire.CLOSED);
        r.listen(1);
        r.counts(1, 0, 0, 3, 64, 8, 0, 0, 5, 5, 0, 0, 0, 0, 0, 0, 0, -1);
        r.numbers(1, 85, 85, 0, 0, 0, -1);
        r.allAsAtFirst(1);
        r.seen(1, 54, -1);
        r.sentFrom(1, 83, -1, -1, -1);
        r.flies(0, 0, 15, Wire.reset(84, 54, 0));
        r.tick(1, 15);
        r.states(Wire.WAIT, Wire.LISTEN);
        r.close(1, Wire.CLOSED);
        r.way(0);
        r.listen(1);
        r.state(1, Wire.LISTEN);
        r.end();
    }

    private static void close() {
        Run r = new Run("close", 10L, 20L, 0);
        r.close(2, UNKNOWN);
        r.close(-1, UNKNOWN);
        r.close(0, STATE);
        r.listen(1);
        r.close(1, Wire.CLOSED);
        r.way(0);
        r.count(1, 6, 0);
        r.open(1);
        r.close(0, Wire.CLOSED);
        r.flies(1, 1, 1, Wire.reset(11, 0, 0));
        r.numbers(0, 12, 10, 0, 0, 0, -1);
        r.count(0, 14, 0);
        r.lose(0, 1);
        r.lose(0, 0);
        r.listen(1);
        r.open(1);
        r.tick(1, 1);
        r.close(1, Wire.CLOSED);
        r.flies(1, 0, 2, Wire.reset(21, 12, 0));
        r.tick(1, 2);
        r.state(0, Wire.WAIT);
        r.close(0, STATE);
        r.counts(0, 14, 0, 0);
        r.tick(1, 3);
        r.flies(0, 0, 4, Wire.reset(22, 12, 1));
        r.tick(11, 14);
        r.states(Wire.CLOSED, Wire.CLOSED);
        closesWhenPartOpen(r);
        closesByAsking(r);
        r.end();
    }

    private static void closesWhenPartOpen(Run r) {
        r.listen(1);
        r.open(1);
        r.tick(2, 16);
        r.give(0, 1, 1L, 1);
        r.give(0, 1, 2L, 2);
        r.count(0, 5, 2);
        r.close(0, Wire.CLOSING);
        r.count(0, 5, 0);
        r.way(2);
        r.flies(1, 1, 17, Wire.packet(Wire.CLOSE, 16, 23, NONE));
        r.close(0, STATE);
        r.give(0, 1, 3L, STATE);
        r.tick(1, 17);
        r.state(1, Wire.CLOSED);
        r.counts(1, 11, 0);
        r.flies(0, 0, 18, Wire.reset(24, 16, 0));
        r.tick(1, 18);
        r.state(0, Wire.WAIT);
        r.seenFrom(0, 22, 0, 1, 1, -1);
        r.tick(12, 30);
        r.state(0, Wire.CLOSED);
    }

    private static void closesByAsking(Run r) {
        r.listen(1);
        r.open(1);
        r.tick(3, 33);
        r.states(Wire.PARTOPEN, Wire.OPEN);
        r.give(1, 2, 9L, 1);
        r.close(1, Wire.ASKED);
        r.count(1, 5, 0);
        r.flies(0, 0, 34, Wire.packet(Wire.ASK, 26, 18, NONE));
        r.close(1, STATE);
        r.tick(1, 34);
        r.states(Wire.CLOSING, Wire.ASKED);
        r.close(0, STATE);
        r.flies(0, 1, 35, Wire.packet(Wire.CLOSE, 19, 26, NONE));
        r.tick(1, 35);
        r.state(1, Wire.CLOSED);
        r.tick(1, 36);
        r.state(0, Wire.WAIT);
        r.counts(0, 6, 10);
        r.counts(1, 6, 8);
        r.numbers(0, 20, 17, 27, 25, 26, -1);
        r.numbers(1, 28, 25, 19, 17, 17, -1);
        r.sentFrom(0, 16, -1, 0, 0, 0, -1);
    }

    private static void give() {
        Run r = new Run("give", 100L, 200L, 0);
        r.give(0, 1, 1L, STATE);
        r.listen(1);
        r.open(1);
        r.give(1, 1, 1L, STATE);
        r.give(0, 41, 1L, OUTSIDE);
        r.give(2, 1, 1L, UNKNOWN);
        r.give(0, 40, 0xF1E2D3C4B5A69788L, 1);
        r.give(0, 0, 5L, 2);
        for (int i = 2; i < 20; i++) r.give(0, 1, i, i + 1);
        r.give(0, 1, 1L, ROOM);
        r.count(0, 5, 20);
        r.tick(1, 1);
        r.give(1, 1, 9L, 1);
        r.tick(1, 2);
        int[] first = new int[40];
        for (int i = 0; i < 40; i++) first[i] = 0x88 + 0x0F * (i % 8) + i & 255;
        r.flies(1, 1, 3, Wire.packet(Wire.BOTH, 102, 200, vector(0), first));
        r.flies(2, 1, 3, Wire.packet(Wire.BOTH, 103, 200, vector(0)));
        r.counts(0, 0, 3, 3, 64, 8, 0, 17);
        r.sentFrom(0, 100, 0, 0, 1, 1, 1, -1);
        r.tick(1, 3);
        r.count(1, 11, 3);
        r.delivered(1, 0, first);
        r.delivered(1, 1);
        r.delivered(1, 2, 2);
        r.flies(0, 0, 4, Wire.packet(Wire.BOTH, 201, 104, vector(4), 9));
        r.tick(1, 4);
        r.delivered(0, 0, 9);
        r.counts(0, 0, 4, 6, 64, 8, 0, 13);
        r.sentFrom(0, 102, 2, 2, 2, 1, 1, 1, 1, -1);
        r.flies(0, 1, 5, Wire.packet(Wire.DATA, 105, 0, NONE, 3));
        r.give(0, 1, 20L, 14);
        r.tick(6, 10);
        r.counts(0, 0, 0, 24, 64, 8, 0, 0, 23, 7, 0, 0, 0, 1);
        r.counts(1, 0, 0, 4, 64, 8, 0, 0, 7, 23, 0, 0, 0, 21);
        for (int i = 2; i <= 20; i++) r.delivered(1, i, i);
        r.numbers(0, 123, 100, 206, 200, 203, -1);
        r.numbers(1, 207, 200, 122, 100, 109, -1);
        r.sentFrom(0, 118, 2, 2, 2, 2, 2, -1);
        r.end();
    }

    private static void want() {
        Run r = new Run("want", 100L, 200L, 0);
        r.want(0, 1, true, 1, 20, STATE);
        r.listen(1);
        r.open(1);
        r.want(0, 1, false, 1, 20, OUTSIDE);
        r.want(0, 1, true, 1, 20, 1);
        r.agreed(0, 1, true, 100, 1, 20);
        r.want(1, 4, false, 2, 0x0102, 1);
        r.want(1, 3, true, 1, 0, 2);
        r.tick(1, 1);
        r.flies(0, 0, 2, Wire.packet(Wire.RESPONSE, 200, 100, new int[] {2, 4, 3, 0, 4, 5, 4, 2, 1}));
        r.count(1, 12, 2);
        r.tick(1, 2);
        r.flies(0, 1, 3, Wire.packet(Wire.ACK, 101, 200,
            Wire.join(new int[] {5, 6, 3, 0, 1, 0, 3, 6, 4, 2, 1, 2, 2, 4, 1, 20}, vector(0))));
        r.agreed(0, 3, false, 0, 0, 1, 0);
        r.agreed(0, 4, true, 2, 0, 1, 2);
        r.counts(0, 12, 1, 0);
        r.tick(1, 3);
        r.agreed(1, 3, true, 0, 0, 0);
        r.agreed(1, 4, false, 2, 0, 2, 1);
        r.agreed(1, 1, false, 20, 0, 100);
        r.counts(1, 12, 0, 0);
        r.flies(0, 0, 4, Wire.packet(Wire.ACK, 201, 101, new int[] {5, 4, 1, 20}));
        r.tick(1, 4);
        r.agreed(0, 1, true, 20, 0, 20);
        r.counts(0, 12, 0);
        r.states(Wire.OPEN, Wire.OPEN);
        wantsOnceMore(r);
        r.end();
    }

    private static void wantsOnceMore(Run r) {
        r.want(0, 3, false, 2, 0x0001, 1);
        r.tick(1, 5);
        r.flies(0, 1, 6, Wire.packet(Wire.ACK, 102, 201, Wire.join(new int[] {4, 5, 3, 1, 0}, vector(0))));
        r.tick(1, 6);
        r.flies(0, 0, 7, Wire.packet(Wire.ACK, 202, 102, new int[] {3, 5, 3, 0, 0}));
        r.tick(1, 7);
        r.agreed(0, 3, false, 0, 0, 1, 0);
        r.agreed(1, 3, true, 0, 0, 0);
        for (int i = 1; i <= 5; i++) r.give(0, 1, i, i);
        r.tick(1, 8);
        r.count(0, 5, 3);
        r.flies(0, 1, 9, Wire.DATA);
        r.want(1, 2, true, 1, 1, 1);
        r.tick(1, 9);
        r.count(0, 5, 1);
        r.flies(2, 0, 10, Wire.packet(Wire.ACK, 203, 104, new int[] {2, 4, 2, 1}));
        r.tick(1, 10);
        r.agreed(0, 2, false, 1, 0, 2);
        r.flies(0, 1, 11, Wire.packet(Wire.BOTH, 107, 203, Wire.join(new int[] {5, 4, 2, 1}, vector(1)), 5));
        r.tick(1, 11);
        r.agreed(1, 2, true, 1, 0, 1);
        r.close(1, Wire.ASKED);
        r.want(1, 4, true, 1, 2, 1);
        r.tick(2, 13);
        r.want(1, 4, true, 1, 2, STATE);
        r.agreed(1, 4, true, 1, 1, 2);
    }

    private static void tick() {
        Run r = new Run("tick", 1000L, 2000L, 2);
        r.listen(1);
        r.open(1);
        r.tick(0, OUTSIDE);
        r.tick(51, OUTSIDE);
        r.tick(3, 3);
        r.flies(0, 0, 6, Wire.packet(Wire.RESPONSE, 2000, 1000, NONE));
        r.tick(1, 4);
        r.flies(1, 1, 7, Wire.packet(Wire.REQUEST, 1001, 0, NONE));
        r.tick(2, 6);
        r.states(Wire.PARTOPEN, Wire.RESPOND);
        r.tick(3, 9);
        r.state(1, Wire.OPEN);
        r.flies(0, 0, 10, Wire.packet(Wire.RESPONSE, 2001, 1001, NONE));
        r.tick(1, 10);
        r.flies(0, 1, 13, Wire.packet(Wire.ACK, 1003, 2000, vector(0)));
        r.flies(1, 1, 13, Wire.packet(Wire.SYNC, 1004, 2000, NONE));
        r.tick(3, 13);
        r.flies(0, 0, 16, Wire.packet(Wire.ANSWER, 2002, 1004, NONE));
        r.tick(3, 16);
        r.states(Wire.OPEN, Wire.OPEN);
        r.flies(0, 1, 17, Wire.packet(Wire.SYNC, 1005, 2000, NONE));
        r.tick(50, 66);
        r.way(0);
        r.counts(0, 6, 6, 4, 0, 0, 0);
        r.counts(1, 6, 4, 6, 0, 0, 0);
        r.seenFrom(0, 1999, 0, 1, 0, 1, 1, -1);
        r.seenFrom(1, 999, 0, 1, 1, 1, 1, 1, 1, -1);
        r.give(0, 4, 7L, 1);
        r.tick(1, 67);
        r.flies(0, 1, 70, Wire.packet(Wire.DATA, 1006, 0, NONE, 7, 1, 2, 3));
        r.lose(0, 0);
        r.tick(7, 74);
        r.sent(0, 1006, 1);
        r.tick(-1, OUTSIDE);
        r.sent(0, 1006, 1);
        r.tick(1, 75);
        r.sent(0, 1006, 3);
        r.counts(0, 0, 0, 1, 2, 16, 0, 0, 7);
        r.number(0, 5, 1006);
        r.got(1, 0, -1, UNKNOWN);
        r.end();
    }

    private static void lose() {
        Run r = Run.opened("lose");
        r.lose(0, UNKNOWN);
        for (int i = 1; i <= 4; i++) r.give(0, i, 10L * i, i);
        r.tick(1, 9);
        r.lose(3, UNKNOWN);
        r.lose(-1, UNKNOWN);
        r.lose(1, 2);
        r.way(2);
        r.flies(0, 1, 10, Wire.packet(Wire.DATA, 103, 0, NONE, 10));
        r.flies(1, 1, 10, Wire.packet(Wire.DATA, 105, 0, NONE, 30, 1, 2));
        r.packet(2, 0, UNKNOWN);
        r.tick(1, 10);
        r.seenFrom(1, 103, 1, 0, 1, -1);
        r.flies(0, 0, 11, Wire.packet(Wire.ACK, 202, 105, vector(0, 192, 3)));
        r.tick(1, 11);
        r.sentFrom(0, 103, 2, 1, 2, 1, -1);
        r.counts(0, 0, 2, 5, 64, 8, 0, 0);
        r.tick(3, 14);
        r.flies(0, 0, 15, Wire.packet(Wire.ACK, 203, 106, vector(1, 192, 3)));
        r.lose(0, 0);
        r.tick(5, 19);
        r.sentFrom(0, 103, 2, 3, 2, 3, -1);
        r.counts(0, 0, 0, 1, 2, 16, 0, 0);
        r.number(0, 5, 106);
        r.give(0, 5, 50L, 1);
        r.tick(4, 23);
        r.flies(0, 0, 24, Wire.packet(Wire.ACK, 204, 107, vector(2, 192, 3)));
        r.tick(1, 24);
        r.sentFrom(0, 103, 2, 3, 2, 2, 2, -1);
        r.counts(0, 0, 0, 2, 2, 8, 0, 0, 8, 4);
        r.seenFrom(0, 200, 1, 1, 1, 0, 1, -1);
        r.count(1, 11, 4);
        r.delivered(1, 0, 10);
        r.delivered(1, 1, 30, 1, 2);
        r.delivered(1, 2, 40, 1, 2, 3);
        r.delivered(1, 3, 50, 1, 2, 3, 4);
        r.numbers(0, 108, 100, 204, 200, 201, 106);
        r.end();
    }

    private static void hold() {
        Run r = Run.opened("hold");
        for (int i = 1; i <= 3; i++) r.give(0, 1, 10 + i, i);
        r.tick(1, 9);
        r.hold(3, 0, UNKNOWN);
        r.hold(0, 51, OUTSIDE);
        r.hold(0, -1, OUTSIDE);
        r.packet(0, 1, 10);
        r.hold(0, 3, 13);
        r.packet(0, 1, 13);
        r.hold(1, 0, 10);
        r.tick(1, 10);
        r.count(1, 11, 2);
        r.delivered(1, 0, 12);
        r.delivered(1, 1, 13);
        r.seenFrom(1, 103, 0, 1, 1, -1);
        r.flies(0, 1, 13, Wire.packet(Wire.DATA, 103, 0, NONE, 11));
        r.flies(1, 0, 11, Wire.packet(Wire.ACK, 202, 105, vector(1, 192, 2)));
        r.hold(1, 1, 12);
        r.tick(1, 11);
        r.counts(0, 0, 3, 3);
        r.tick(1, 12);
        r.counts(0, 0, 1, 5);
        r.sentFrom(0, 103, 1, 2, 2, -1);
        r.tick(1, 13);
        r.delivered(1, 2, 11);
        r.seenFrom(1, 103, 1, 1, 1, -1);
        r.number(1, 2, 105);
        r.tick(2, 15);
        r.flies(0, 0, 16, Wire.packet(Wire.ACK, 203, 105, vector(5)));
        r.hold(0, 50, 66);
        r.tick(5, 20);
        r.sent(0, 103, 3);
        r.counts(0, 0, 0, 1, 2, 16);
        r.tick(45, 65);
        r.way(1);
        r.number(0, 2, 202);
        r.tick(1, 66);
        r.way(0);
        r.sent(0, 103, 2);
        r.counts(0, 0, 0, 1, 2, 16);
        r.numbers(0, 106, 100, 203, 200, 201, 105);
        r.end();
    }

    private static void repeat() {
        Run r = Run.opened("repeat");
        r.repeat(0, 0, UNKNOWN);
        r.give(0, 2, 0x0201L, 1);
        r.tick(1, 9);
        r.repeat(0, 51, OUTSIDE);
        r.repeat(0, 0, 2);
        r.repeat(0, 2, 3);
        r.repeat(1, 50, 4);
        int[] data = Wire.packet(Wire.DATA, 103, 0, NONE, 1, 3);
        int[] when = {10, 10, 12, 60};
        for (int i = 0; i < 4; i++) r.flies(i, 1, when[i], data);
        r.count(0, 6, 4);
        r.tick(1, 10);
        r.counts(1, 7, 5, 0, 0, 1, 1);
        r.way(2);
        r.tick(2, 12);
        r.counts(1, 7, 6, 0, 0, 2, 1);
        r.flies(1, 0, 13, Wire.packet(Wire.ACK, 202, 103, vector(3)));
        r.repeat(1, 0, 3);
        r.tick(1, 13);
        r.counts(0, 0, 0, 4);
        r.counts(0, 7, 4, 0, 0, 1);
        for (int n = 2; n <= 60; n++) r.repeat(0, 50, n);
        r.repeat(0, 50, ROOM);
        r.give(0, 1, 5L, 1);
        r.tick(1, 14);
        r.way(60);
        r.sent(0, 104, 1);
        r.counts(0, 0, 1, 4, 64, 8, 0, 0, 5);
        r.tick(2, 16);
        r.seenFrom(1, 103, 1, -1);
        r.got(1, 1, -1, UNKNOWN);
        r.lose(59, 59);
        r.repeat(58, 3, 60);
        r.flies(59, 1, 113, data);
        r.tick(6, 22);
        r.sent(0, 104, 3);
        r.tick(38, 60);
        r.way(59);
        r.count(1, 10, 3);
        r.tick(50, 110);
        r.way(1);
        r.tick(3, 113);
        r.way(0);
        r.counts(1, 7, 66, 0, 0, 62, 1);
        r.delivered(1, 0, 1, 3);
        r.end();
    }

    private static void alter() {
        Run r = Run.opened("alter");
        r.alter(0, 0, 1, UNKNOWN);
        r.give(0, 4, 0x04030201L, 1);
        r.tick(1, 9);
        // two bytes that change their places leave the CHECK right
        r.alter(0, 10, 4, 5);
        r.alter(0, 12, 4, 1);
        r.flies(0, 1, 10, Wire.packet(Wire.DATA, 103, 0, NONE, 5, 3, 1, 7));
        r.tick(1, 10);
        r.delivered(1, 0, 5, 3, 1, 7);
        r.count(1, 8, 0);
        r.give(0, 1, 7L, 1);
        r.tick(1, 11);
        r.alter(0, 10, 0x180, 135);
        r.octet(0, 10, 135);
        r.tick(1, 12);
        r.counts(1, 7, 5, 1, 0, 0, 1);
        r.seenFrom(1, 103, 1, -1);
        r.flies(0, 0, 13, Wire.packet(Wire.ACK, 202, 103, vector(3)));
        r.alter(0, 0, 1, 2);
        r.octet(0, 0, 2);
        r.alter(0, 0, -255, 3);
        r.tick(1, 13);
        r.counts(0, 0, 1, 4);
        r.count(0, 8, 0);
        numberIsAltered(r);
        r.end();
    }

    private static void numberIsAltered(Run r) {
        r.give(0, 0, 0L, 1);
        r.tick(1, 14);
        r.alter(0, 10, 1, UNKNOWN);
        r.alter(0, -1, 1, UNKNOWN);
        r.octet(0, 3, 0x96);
        r.alter(0, 9, 3, 106);
        r.alter(0, 3, 3, 0x95);
        r.flies(0, 1, 15, Wire.packet(Wire.DATA, 106, 0, NONE));
        r.tick(1, 15);
        r.delivered(1, 1);
        r.seenFrom(1, 103, 1, 0, 0, 1, -1);
        r.tick(2, 17);
        r.flies(0, 0, 18, Wire.packet(Wire.ACK, 203, 106, vector(0, 193, 3)));
        r.tick(1, 18);
        r.count(0, 9, 1);
        r.flies(0, 1, 19, Wire.packet(Wire.SYNC, 106, 203, NONE));
        r.tick(1, 19);
        r.count(1, 10, 1);
        r.way(0);
        r.sentFrom(0, 103, 2, 1, 1, 0, -1);
        r.tick(2, 21);
        r.sentFrom(0, 103, 2, 3, 3, 0, -1);
    }

    private static void feed() {
        Run r = new Run("feed", 100L, 200L, 0);
        long far = 0x010203040506L;
        r.listen(1);
        r.feed(0, 0x01020304, 0x05060708, 9, -1, 20);
        r.put(1, 10, true, 1);
        r.flies(0, 1, 1, Wire.packet(Wire.REQUEST, far, 0, NONE));
        for (int i = 1; i <= 11; i++) r.feed(i, -i, 0x7FFFFFFF, 0x80000000, 0x00FF00FE, 20 * i);
        r.feed(0, 0, 0, 0, 0, ROOM);
        r.put(0, 220, false, 2);
        r.packet(1, 2, 220);
        for (int i = 1; i <= 11; i++) {
            r.octet(1, 20 * i - 18, 0);
            r.octet(1, 20 * i - 17, i);
            r.octet(1, 20 * i - 16, 255);
            r.octet(1, 20 * i - 13, 256 - i);
            r.octet(1, 20 * i - 12, 127);
            r.octet(1, 20 * i - 8, 128);
            r.octet(1, 20 * i - 1, 254);
        }
        r.tick(1, 1);
        r.state(1, Wire.RESPOND);
        r.numbers(1, 201, 200, far, far, far, -1);
        r.seenFrom(1, far - 1, 0, 1, -1);
        r.counts(0, 6, 0, 1, 1);
        r.flies(0, 0, 2, Wire.packet(Wire.RESPONSE, 200, far, NONE));
        int[] text = {'t', 'w', 'e', 'n', 't', 'y', ' ', 'b', 'y', 't', 'e', 's', ' ', 'a', 'n', 'd', ' ', 'o', 'n', 'e', '!'};
        r.comes(1, 2, Wire.packet(Wire.BOTH, far + 1, 200, NONE, text));
        r.tick(1, 2);
        r.state(1, Wire.OPEN);
        r.delivered(1, 0, text);
        r.flies(0, 1, 3, Wire.reset(100, 0, 1));
        r.tick(1, 3);
        r.counts(1, 7, 3, 0, 1, 0, 1);
        r.feed(0, 0, 0, 0, 0, 20);
        r.end();
    }

    private static void put() {
        Run r = new Run("put", 100L, 200L, 3);
        r.put(2, 0, true, UNKNOWN);
        r.put(1, 1, true, OUTSIDE);
        r.put(0, 0, true, 1);
        r.packet(0, 2, 0);
        r.octet(0, 0, UNKNOWN);
        int[][] made = {{10, 11, 12}, {10, 11, 0xF5, 0xF4}, {10, 11, 12, 13, 0}};
        for (int i = 0; i < 3; i++) {
            r.feed(0x0A0B0C0D, 0, 0, 0, 0, 20);
            r.put(1, 21, true, OUTSIDE);
            r.put(1, -1, true, OUTSIDE);
            r.put(1, made[i].length, i < 2, 2 + i);
            r.packet(i + 1, 0, 1);
            r.packet(i + 1, 1, 1);
            r.packet(i + 1, 2, made[i].length);
            for (int k = 0; k < made[i].length; k++) r.octet(i + 1, k, made[i][k]);
        }
        r.tick(1, 1);
        r.way(0);
        r.counts(0, 6, 0, 1, 1);
        r.counts(1, 6, 0, 3, 3);
        r.open(1);
        r.comes(0, 2, Wire.packet(Wire.RESPONSE, 777, 100, NONE));
        r.flies(1, 0, 2, Wire.packet(Wire.RESPONSE, 777, 100, NONE));
        r.tick(1, 2);
        r.states(Wire.PARTOPEN, Wire.CLOSED);
        r.numbers(0, 102, 100, 777, 777, 777, -1);
        r.comes(0, 3, Wire.packet(Wire.BOTH, 778, 101, NONE, 9, 8, 7));
        r.tick(1, 3);
        r.state(0, Wire.OPEN);
        r.delivered(0, 0, 9, 8, 7);
        r.numbers(0, 102, 100, 778, 777, 778, -1);
        r.seenFrom(0, 776, 0, 1, 1, -1);
        r.tick(3, 6);
        r.flies(0, 0, 9, Wire.reset(200, 0, 1));
        r.flies(1, 1, 9, Wire.packet(Wire.ACK, 102, 778, vector(0)));
        for (int n = 4; n <= 60; n++) r.put(1, 0, false, n);
        r.put(1, 0, false, ROOM);
        r.feed(0, 0, 0, 0, 0, 20);
        r.put(0, 20, false, ROOM);
        r.feed(0, 0, 0, 0, 0, 40);
        r.tick(1, 7);
        r.way(3);
        r.count(1, 8, 60);
        r.put(0, 40, true, 4);
        r.put(0, 1, true, OUTSIDE);
        r.tick(3, 10);
        r.counts(0, 7, 6, 2, 2);
        r.end();
    }
}
