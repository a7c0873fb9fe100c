import java.util.Arrays;

/** What calls answer to ordinary and wrong arguments: promises 1 to 23, one after the other. */
public final class CallsTest {
    private static final int UNKNOWN = FlowTalk.UNKNOWN, OUTSIDE = FlowTalk.OUTSIDE, STATE = FlowTalk.STATE,
        ROOM = FlowTalk.ROOM;
    private static final int[] NO_ENDS = {-1, 2, Integer.MIN_VALUE, Integer.MAX_VALUE};

    public static void main(String[] args) {
        newObject();
        openAndListen();
        close();
        give();
        want();
        tick();
        loseHoldRepeat();
        alterAndOctet();
        feedAndPut();
        packetAndWay();
        stateAndNumber();
        feature();
        count();
        got();
        seenAndSent();
        Check.finish();
    }

    private static void newObject() {
        int[] delays = {0, 1, 4, 5, 9, -1, -5, Integer.MIN_VALUE, Integer.MAX_VALUE};
        int[] ticks = {1, 2, 5, 1, 5, 5, 1, 3, 3};
        for (int i = 0; i < delays.length; i++) {
            FlowTalk x = new FlowTalk(-1L, 1L << 48, delays[i]);
            Check.due("1: state(0)", x.state(0), 0);
            Check.due("1: state(1)", x.state(1), 0);
            Check.due("1: number(0, 0)", x.number(0, 0), (1L << 48) - 1);
            Check.due("1: number(1, 0)", x.number(1, 0), 0);
            Check.due("1: way", x.way(), 0);
            Check.due("1: put of an empty tape", x.put(0, 1, false), OUTSIDE);
            x.open();
            Check.due("1: delay " + delays[i], x.packet(0, 1), ticks[i]);
            Check.due("1: number goes around", x.number(0, 0), 0);
        }
    }

    private static void openAndListen() {
        FlowTalk x = new FlowTalk(7L, 9L, 0);
        Check.due("3: listen", x.listen(), 1);
        Check.due("3: listen again", x.listen(), STATE);
        Check.due("2: open", x.open(), 1);
        Check.due("2: open again", x.open(), STATE);
        Check.due("2: state", x.state(0), Wire.REQUESTED);
        Check.due("2: FIRST", x.number(0, 1), 7);
        Check.due("2: NEXT", x.number(0, 0), 8);
        Check.due("2: one REQUEST", x.way(), 1);
        x.close(0);
        Check.due("2: open anew", x.open(), 1);
        Check.due("2: FIRST anew", x.number(0, 1), 9);
        openClearsAllButCounts();
        listenClearsLikewise();
    }

    private static void openClearsAllButCounts() {
        FlowTalk x = Wire.opened();
        x.want(0, 3, true, 1, 0);
        x.give(0, 1, 1L);
        x.give(1, 4, 5L);
        x.tick(1);
        Wire.silence(x);
        Wire.post(x, 0, Wire.reset(203, 102, 9));
        x.tick(1);
        Check.due("2: WAIT", x.state(0), Wire.WAIT);
        x.tick(12);
        int sent = x.count(0, 6), come = x.count(0, 7);
        Check.due("2: open behind WAIT", x.open(), 1);
        Check.due("2: PIPE", x.count(0, 0), 0);
        Check.due("2: CHANGING", x.count(0, 12), 0);
        Check.due("2: list", x.feature(0, 3, true, 2), 2);
        Check.due("2: HIGH", x.number(0, 2), 0);
        Check.due("2: seen", x.seen(0, 201), -1);
        Check.due("2: sent before FIRST", x.sent(0, 101), -1);
        Check.due("2: packets sent stay counted", x.count(0, 6), sent + 1);
        Check.due("2: packets come stay counted", x.count(0, 7), come);
        Check.due("2: the CODE heard stays", x.count(0, 15), 9);
    }

    private static void listenClearsLikewise() {
        FlowTalk x = Wire.partOpen();
        x.give(0, 3, 1L);
        x.tick(2);
        Wire.silence(x);
        x.want(1, 4, false, 1, 2);
        Wire.post(x, 1, Wire.reset(110, 200, 3));
        x.tick(13);
        Check.due("3: CLOSED behind WAIT", x.state(1), 0);
        long next = x.number(1, 0);
        Check.due("3: listen", x.listen(), 1);
        Check.due("3: FIRST", x.number(1, 1), next);
        Check.due("3: MET", x.number(1, 3), 0);
        Check.due("3: list", x.feature(1, 4, false, 2), 2);
        Check.due("3: CHANGING", x.count(1, 12), 0);
        Check.due("3: DELIVERED stays", x.count(1, 11), 1);
        Check.due("3: DELIVERED stays to be read", x.got(1, 0, -1), 3);
    }

    private static void close() {
        FlowTalk x = new FlowTalk(0L, 0L, 0);
        for (int end : NO_ENDS) Check.due("4: UNKNOWN", x.close(end), UNKNOWN);
        Check.due("4: CLOSED", x.close(0), STATE);
        x.listen();
        Check.due("4: LISTEN", x.close(1), 0);
        Check.due("4: in silence", x.way(), 0);
        x.open();
        Wire.silence(x);
        Check.due("4: REQUEST", x.close(0), 0);
        Check.due("4: a RESET", x.octet(0, 0), Wire.RESET);
        Check.due("4: with CODE 0", x.octet(0, 16), 0);
        x = Wire.opened();
        x.give(0, 1, 1L);
        Check.due("4: OPEN, end 0", x.close(0), Wire.CLOSING);
        Check.due("4: a CLOSE", x.octet(0, 0), Wire.CLOSE);
        Check.due("4: datagrams are gone", x.count(0, 5), 0);
        Check.due("4: CLOSING", x.close(0), STATE);
        Check.due("4: OPEN, end 1", x.close(1), Wire.ASKED);
        Check.due("4: an ASK", x.octet(1, 0), Wire.ASK);
        Check.due("4: ASKED", x.close(1), STATE);
        x.tick(4);
        Check.due("4: WAIT", x.state(0) == Wire.WAIT ? x.close(0) : x.close(1), STATE);
        x = Wire.partOpen();
        Check.due("4: PARTOPEN", x.close(0), Wire.CLOSING);
    }

    private static void give() {
        FlowTalk x = new FlowTalk(0L, 0L, 0);
        for (int end : NO_ENDS) Check.due("5: UNKNOWN", x.give(end, 41, 0L), UNKNOWN);
        Check.due("5: OUTSIDE before STATE", x.give(0, 41, 0L), OUTSIDE);
        Check.due("5: OUTSIDE", x.give(0, -1, 0L), OUTSIDE);
        Check.due("5: CLOSED", x.give(0, 40, 0L), STATE);
        x.listen();
        Check.due("5: LISTEN", x.give(1, 0, 0L), STATE);
        x.open();
        for (int i = 1; i <= 20; i++) Check.due("5: REQUEST", x.give(0, 2, i), i);
        Check.due("5: ROOM", x.give(0, 2, 0L), ROOM);
        Check.due("5: OUTSIDE before ROOM", x.give(0, 41, 0L), OUTSIDE);
        x = Wire.opened();
        x.give(0, 40, 0x8877665544332211L);
        x.tick(2);
        for (int i = 0; i < 40; i++) Check.due("5: byte " + i, x.got(1, 0, i), 0x11 * (1 + i % 8) + i & 255);
        x.close(0);
        Check.due("5: CLOSING", x.give(0, 0, 0L), STATE);
    }

    private static void want() {
        FlowTalk x = new FlowTalk(0L, 0L, 0);
        for (int end : NO_ENDS) Check.due("6: UNKNOWN end", x.want(end, 1, true, 1, 100), UNKNOWN);
        for (int f : new int[] {0, 5, -1, Integer.MIN_VALUE}) Check.due("6: UNKNOWN feature", x.want(0, f, true, 9, 1), UNKNOWN);
        int[][] outside = {{1, 1, 0, 100}, {1, 1, 4, 100}, {1, 1, 1, 15}, {1, 1, 1, 256}, {1, 1, 2, 0x6464}, {1, 0, 1, 100},
            {2, 1, 1, 0}, {2, 1, 1, 21}, {2, 0, 1, 2}, {3, 1, 1, 2}, {3, 1, 2, 0x101}, {3, 1, 3, 0x000100}, {4, 1, 1, 0},
            {4, 1, 1, 3}, {4, 1, 2, 0x202}, {4, 0, 3, 0x010201}, {4, 1, -1, 1}};
        for (int[] o : outside) {
            Check.due("6: OUTSIDE " + Arrays.toString(o), x.want(0, o[0], o[1] == 1, o[2], o[3]), OUTSIDE);
        }
        Check.due("6: CLOSED", x.want(0, 1, true, 1, 16), STATE);
        x.open();
        Check.due("6: the least WINDOW", x.want(0, 1, true, 1, 16), 1);
        Check.due("6: the most WINDOW", x.want(0, 1, true, 1, 255), 1);
        Check.due("6: higher bytes are not asked", x.want(0, 2, true, 1, 0x7F00 + 20), 2);
        Check.due("6: of the other", x.want(0, 3, false, 2, 0x100), 3);
        Check.due("6: two values", x.want(0, 4, true, 2, 0x102), 4);
        Check.due("6: its list", x.feature(0, 4, true, 3) * 10 + x.feature(0, 4, true, 4), 21);
        Check.due("6: the value stays", x.feature(0, 1, true, 0), 100);
        x.listen();
        Check.due("6: LISTEN", x.want(1, 3, true, 1, 0), 1);
        x = Wire.opened();
        Wire.post(x, 0, Wire.reset(202, 102, 0));
        x.tick(1);
        Check.due("6: WAIT", x.want(0, 3, true, 1, 0), STATE);
    }

    private static void tick() {
        FlowTalk x = new FlowTalk(0L, 0L, 0);
        for (int n : new int[] {0, -1, 51, Integer.MIN_VALUE, Integer.MAX_VALUE}) Check.due("7: OUTSIDE", x.tick(n), OUTSIDE);
        Check.due("7: 1", x.tick(1), 1);
        Check.due("7: 50", x.tick(50), 51);
    }

    private static void loseHoldRepeat() {
        FlowTalk x = new FlowTalk(0L, 0L, 2);
        x.open();
        for (int i : new int[] {-1, 1, 60, Integer.MIN_VALUE}) {
            Check.due("8: UNKNOWN", x.lose(i), UNKNOWN);
            Check.due("9: UNKNOWN", x.hold(i, 51), UNKNOWN);
            Check.due("10: UNKNOWN", x.repeat(i, 51), UNKNOWN);
        }
        for (int n : new int[] {-1, 51}) {
            Check.due("9: OUTSIDE", x.hold(0, n), OUTSIDE);
            Check.due("10: OUTSIDE", x.repeat(0, n), OUTSIDE);
        }
        Check.due("9: by 0", x.hold(0, 0), 3);
        Check.due("9: by 50", x.hold(0, 50), 53);
        Check.due("10: by 7", x.repeat(0, 7), 2);
        Check.due("10: later than it", x.packet(1, 1), 60);
        Check.due("10: to the same end", x.packet(1, 0), 1);
        Check.holds("10: the same bytes", Arrays.equals(Wire.bytes(x, 0), Wire.bytes(x, 1)));
        x.alter(0, 4, 255);
        Check.due("10: it is another packet", x.octet(1, 4), 0);
        for (int i = 3; i <= 60; i++) Check.due("10: more", x.repeat(1, 0), i);
        Check.due("10: ROOM", x.repeat(0, 0), ROOM);
        Check.due("10: OUTSIDE before ROOM", x.repeat(0, 51), OUTSIDE);
        Check.due("8: the first one", x.lose(0), 59);
        Check.due("8: others move up", x.packet(0, 1), 60);
        Check.due("8: UNKNOWN beyond", x.lose(59), UNKNOWN);
        Check.due("8: the last one", x.lose(58), 58);
    }

    private static void alterAndOctet() {
        FlowTalk x = new FlowTalk(0L, 0L, 0);
        Check.due("11: no packet", x.alter(0, 0, 1), UNKNOWN);
        Check.due("16: no packet", x.octet(0, 0), UNKNOWN);
        x.open();
        for (int k : new int[] {-1, 10, 219, 220, Integer.MAX_VALUE, Integer.MIN_VALUE}) {
            Check.due("11: UNKNOWN byte", x.alter(0, k, 1), UNKNOWN);
            Check.due("16: UNKNOWN byte", x.octet(0, k), UNKNOWN);
        }
        Check.due("11: the lowest byte of mask", x.alter(0, 9, 0x1234), 0x34);
        Check.due("11: xored", x.alter(0, 9, -1), 0xCB);
        Check.due("16: as altered", x.octet(0, 9), 0xCB);
        x.tick(1);
        Check.due("11: an altered packet is BAD", x.count(1, 8), 1);
        Check.due("11: and has come", x.count(1, 7), 1);
        Check.due("11: nothing goes back", x.way(), 0);
    }

    private static void feedAndPut() {
        FlowTalk x = new FlowTalk(0L, 0L, 4);
        for (int i = 1; i <= 11; i++) Check.due("12: feed", x.feed(0x01020304, 5, -2, 0x80000000, i), 20 * i);
        Check.due("12: ROOM", x.feed(0, 0, 0, 0, 0), ROOM);
        for (int end : NO_ENDS) Check.due("13: UNKNOWN", x.put(end, 500, true), UNKNOWN);
        Check.due("13: OUTSIDE", x.put(1, 221, true), OUTSIDE);
        Check.due("13: OUTSIDE", x.put(1, -1, true), OUTSIDE);
        Check.due("13: all of it", x.put(1, 220, false), 1);
        int[] first = {1, 2, 3, 4, 0, 0, 0, 5, 255, 255, 255, 254, 128, 0, 0, 0, 0, 0, 0, 1};
        for (int k = 0; k < 20; k++) Check.due("12: byte " + k, x.octet(0, k), first[k]);
        Check.due("12: the last byte", x.octet(0, 219), 11);
        Check.due("13: due with the next tick", x.packet(0, 1), 1);
        Check.due("13: the tape is empty", x.put(1, 1, false), OUTSIDE);
        Check.due("13: no bytes", x.put(1, 0, true), 2);
        Check.due("13: no bytes has none", x.packet(1, 2), 0);
        x.feed(-1, 0, 0, 0, 0);
        Check.due("13: three bytes", x.put(0, 3, true), 3);
        Check.due("13: are left as they are", x.octet(2, 2), 255);
        x.feed(0x00010203, 0, 0, 0, 0);
        x.put(0, 4, true);
        Check.due("13: four bytes have a CHECK", x.octet(3, 2) * 256 + x.octet(3, 3), 65535 - 1);
        x.feed(0x02000000, 0x00112233, 0x4455FFFF, 0xFFFF0000, 0);
        x.put(0, 15, true);
        Check.due("13: a CHECK that goes around", x.octet(4, 2) * 256 + x.octet(4, 3),
            65535 - (0x0200 + 0x0011 + 0x2233 + 0x4455 + 0xFFFF + 0xFFFF - 2 * 65535));
        x.tick(1);
        Check.due("13: BAD ones come", x.count(0, 8), 2);
        Check.due("13: BAD ones come", x.count(1, 8), 2);
        Check.due("13: DATA with a right CHECK is answered", x.octet(0, 0), Wire.RESET);
        Wire.silence(x);
        for (int i = 1; i <= 60; i++) Check.due("13: up to 60", x.put(0, 0, false), i);
        x.feed(0, 0, 0, 0, 0);
        Check.due("13: ROOM", x.put(0, 0, false), ROOM);
        Check.due("13: OUTSIDE before ROOM", x.put(0, 21, false), OUTSIDE);
        Check.due("13: the tape is kept", x.feed(0, 0, 0, 0, 0), 40);
    }

    private static void packetAndWay() {
        FlowTalk x = new FlowTalk(0L, 0L, 1);
        Check.due("14: none", x.way(), 0);
        Check.due("15: UNKNOWN", x.packet(0, 9), UNKNOWN);
        x.open();
        Check.due("14: one", x.way(), 1);
        Check.due("15: UNKNOWN", x.packet(1, 0), UNKNOWN);
        Check.due("15: UNKNOWN", x.packet(-1, 0), UNKNOWN);
        Check.due("15: OUTSIDE", x.packet(0, 3), OUTSIDE);
        Check.due("15: OUTSIDE", x.packet(0, -1), OUTSIDE);
        Check.due("15: to", x.packet(0, 0), 1);
        Check.due("15: when", x.packet(0, 1), 2);
        Check.due("15: bytes", x.packet(0, 2), 10);
    }

    private static void stateAndNumber() {
        FlowTalk x = new FlowTalk(3L, 4L, 0);
        for (int end : NO_ENDS) {
            Check.due("17: UNKNOWN", x.state(end), UNKNOWN);
            Check.due("18: UNKNOWN", x.number(end, 9), UNKNOWN);
        }
        Check.due("18: OUTSIDE", x.number(0, 6), OUTSIDE);
        Check.due("18: OUTSIDE", x.number(0, -1), OUTSIDE);
        long[] fresh = {3, 3, 0, 0, 0, -1};
        for (int w = 0; w < 6; w++) Check.due("18: at first, " + w, x.number(0, w), fresh[w]);
        x = Wire.opened();
        long[] zero = {103, 100, 201, 200, 200, -1};
        long[] one = {202, 200, 102, 100, 100, -1};
        for (int w = 0; w < 6; w++) {
            Check.due("18: end 0, " + w, x.number(0, w), zero[w]);
            Check.due("18: end 1, " + w, x.number(1, w), one[w]);
        }
        Check.due("17: OPEN", x.state(0), Wire.OPEN);
    }

    private static void feature() {
        FlowTalk x = new FlowTalk(0L, 0L, 0);
        for (int end : NO_ENDS) Check.due("19: UNKNOWN end", x.feature(end, 1, true, 9), UNKNOWN);
        Check.due("19: UNKNOWN feature", x.feature(0, 0, true, 9), UNKNOWN);
        Check.due("19: UNKNOWN feature", x.feature(0, 5, true, 0), UNKNOWN);
        Check.due("19: OUTSIDE", x.feature(0, 1, true, -1), OUTSIDE);
        Check.due("19: OUTSIDE", x.feature(0, 1, true, 6), OUTSIDE);
        int[][] fresh = {{100, 0, 1, 100, -1, -1}, {2, 0, 1, 2, -1, -1}, {1, 0, 2, 1, 0, -1}, {1, 0, 2, 1, 2, -1}};
        for (int i = 0; i < 96; i++) {
            int f = i % 4, w = i / 4 % 6;
            Check.due("19: at first", x.feature(i / 24 % 2, f + 1, i / 48 == 0, w), fresh[f][w]);
        }
    }

    private static void count() {
        FlowTalk x = new FlowTalk(0L, 0L, 0);
        for (int end : NO_ENDS) Check.due("20: UNKNOWN", x.count(end, 99), UNKNOWN);
        Check.due("20: OUTSIDE", x.count(0, 16), OUTSIDE);
        Check.due("20: OUTSIDE", x.count(0, -1), OUTSIDE);
        int[] fresh = {0, 3, 64, 8, 0, 0, 0, 0, 0, 0, 0, 0, 0, 0, -1, -1};
        for (int w = 0; w < 16; w++) Check.due("20: at first, " + w, x.count(1, w), fresh[w]);
    }

    private static void got() {
        FlowTalk x = Wire.opened();
        Check.due("21: none", x.got(1, 0, -1), UNKNOWN);
        for (int i = 0; i < 45; i++) {
            x.give(0, i % 3 + 1, 10L + i);
            x.tick(2);
        }
        x.tick(2);
        for (int end : NO_ENDS) Check.due("21: UNKNOWN end", x.got(end, 0, 0), UNKNOWN);
        Check.due("21: all came", x.count(1, 11), 45);
        Check.due("21: kept no more", x.got(1, 4, -1), UNKNOWN);
        Check.due("21: the oldest kept", x.got(1, 5, -1), 3);
        Check.due("21: its byte", x.got(1, 5, 0), 15);
        Check.due("21: the latest", x.got(1, 44, 0), 54);
        Check.due("21: beyond", x.got(1, 45, -1), UNKNOWN);
        Check.due("21: below", x.got(1, -1, -1), UNKNOWN);
        Check.due("21: byte beyond", x.got(1, 5, 3), UNKNOWN);
        Check.due("21: byte below", x.got(1, 5, -2), UNKNOWN);
    }

    private static void seenAndSent() {
        FlowTalk x = new FlowTalk(0L, 0L, 0);
        for (int end : NO_ENDS) {
            Check.due("22: UNKNOWN", x.seen(end, 0), UNKNOWN);
            Check.due("23: UNKNOWN", x.sent(end, 0), UNKNOWN);
        }
        Check.due("22: no HIGH", x.seen(0, 0), -1);
        Check.due("23: not sent yet", x.sent(0, 0), -1);
        x = Wire.opened();
        x.give(0, 1, 1L);
        x.tick(1);
        Wire.silence(x);
        x.give(0, 1, 1L);
        x.tick(2);
        Check.due("22: AFTER HIGH", x.seen(1, 105), -1);
        Check.due("22: HIGH", x.seen(1, 104), 1);
        Check.due("22: lost", x.seen(1, 103), 0);
        Check.due("22: before MET", x.seen(1, 99), 0);
        Check.due("22: 255 behind", x.seen(1, 104 - 255), 0);
        Check.due("22: 256 behind", x.seen(1, 104 - 256), -1);
        Check.due("22: the lowest 48 bits", x.seen(1, 104 + (1L << 48)), 1);
        Check.due("23: before FIRST", x.sent(0, 99), -1);
        Check.due("23: REQUEST", x.sent(0, 100), 0);
        Check.due("23: UNDER WAY", x.sent(0, 103), 1);
        Check.due("23: UNDER WAY", x.sent(0, 104), 1);
        Check.due("23: NEXT", x.sent(0, x.number(0, 0)), -1);
        Check.due("23: the lowest 48 bits", x.sent(0, 103 - (1L << 48)), 1);
        for (int i = 0; i < 300 && x.number(0, 0) < 103 + 255; i++) {
            Wire.post(x, 0, Wire.packet(Wire.SYNC, x.number(0, 2) + 1, x.number(0, 0) - 1, Wire.NONE));
            x.tick(1);
            Wire.silence(x);
        }
        Check.due("23: NEXT, by an ANSWER a tick", x.number(0, 0), 103 + 255);
        Check.due("23: 255 behind", x.sent(0, 103), 3);
        x.tick(1);
        x.close(0);
        Check.due("23: 256 behind", x.sent(0, 103), -1);
        Check.due("23: 255 behind now", x.sent(0, 104), 3);
    }
}
