/** Part 6's edges: one tick before each time, that time, and one behind it; how many are on the way. */
public final class TickEdgesTest {
    public static void main(String[] args) {
        delays();
        comesWhenItsTimeHasCome();
        orderOnTheWay();
        endZeroFirst();
        requests();
        respond();
        partOpen();
        partOpenIsLeft();
        asksAndCloses();
        closingByAsk();
        waiting();
        ackByRatio();
        ackByTime();
        ackInEachState();
        dataInEachState();
        bothOrData();
        sixtyOnTheWay();
        manyTicksAtOnce();
        Check.finish();
    }

    private static void comes(FlowTalk x, int end, int... bytes) {
        Wire.post(x, end, bytes);
        x.tick(1);
    }

    /** What is on the way, as kinds; then it is lost. */
    private static String sent(FlowTalk x) {
        StringBuilder s = new StringBuilder();
        for (int i = 0; i < x.way(); i++) s.append(x.octet(i, 0));
        Wire.silence(x);
        return s.toString();
    }

    private static void sends(String what, FlowTalk x, String due) {
        String got = sent(x);
        Check.holds(what + " sends '" + got + "', due is '" + due + "'", got.equals(due));
    }

    /** "a DELAY of 1 .. 5 ticks, its lowest bits: 1 + (delay modulo 5, from 0 on)"; comes "so many ticks later". */
    private static void delays() {
        for (int delay = -11; delay <= 11; delay++) {
            int ticks = 1 + ((delay + 15) % 5);
            FlowTalk x = new FlowTalk(100L, 200L, delay);
            x.listen();
            x.tick(3);
            x.open();
            Check.due("delay " + delay, x.packet(0, 1), 3 + ticks);
            if (ticks > 1) x.tick(ticks - 1);
            Check.due("one tick before", x.state(1) * 10 + x.count(1, 7), 10);
            x.tick(1);
            Check.due("then it comes", x.state(1) * 10 + x.count(1, 7), 31);
            Check.due("the RESPONSE likewise", x.packet(x.way() - 1, 1), 3 + 2 * ticks);
        }
        int[] given = {Integer.MIN_VALUE, Integer.MAX_VALUE}, due = {3, 3};
        for (int i = 0; i < 2; i++) {
            FlowTalk x = new FlowTalk(0L, 0L, given[i]);
            x.open();
            Check.due("delay " + given[i], x.packet(0, 1), due[i]);
        }
    }

    /** "packets whose time has come": hold by 0, 1, 50; a packet that is put is "due with the next tick". */
    private static void comesWhenItsTimeHasCome() {
        for (int n : new int[] {0, 1, 2, 49, 50}) {
            FlowTalk x = Wire.opened();
            Wire.post(x, 1, Wire.packet(Wire.DATA, 103, 0, Wire.NONE));
            Check.due("due with the next tick", x.packet(0, 1), 9);
            Check.due("hold " + n, x.hold(0, n), 9 + n);
            for (int t = 0; t < n; t++) x.tick(1);
            Check.due("not yet, " + n, x.count(1, 11) * 100 + x.way(), 1);
            x.tick(1);
            Check.due("then, " + n, x.count(1, 11), 1);
        }
    }

    /** "in the order in which they came on the way .. what they send comes on the way behind all others". */
    private static void orderOnTheWay() {
        FlowTalk x = Wire.opened();
        for (int i = 0; i < 4; i++) Wire.post(x, i % 2, Wire.packet(Wire.SYNC, (i % 2 == 0 ? 202 : 103) + i, i % 2 == 0 ? 102 : 201, Wire.NONE));
        Wire.post(x, 1, Wire.packet(Wire.DATA, 120, 0, Wire.NONE));
        x.hold(4, 5);
        x.hold(0, 1);
        x.tick(1);
        Check.due("two stay and three ANSWERS", x.way(), 5);
        Check.due("the one that was held", x.octet(0, 0) * 100 + x.packet(0, 1), 810);
        Check.due("the other one that was held", x.octet(1, 0) * 100 + x.packet(1, 1), 214);
        long[] acks = {104, 204, 106};
        for (int i = 0; i < 3; i++) Check.due("ANSWER " + i, Wire.ack(Wire.bytes(x, 2 + i)), acks[i]);
    }

    /** "Then end 0, then end 1": what they send in a tick stands in that order. */
    private static void endZeroFirst() {
        FlowTalk x = Wire.opened();
        x.give(1, 1, 1L);
        x.give(0, 1, 1L);
        x.give(1, 1, 1L);
        x.want(0, 1, true, 1, 30);
        x.tick(1);
        Check.due("to which ends", x.packet(0, 0) * 100 + x.packet(1, 0) * 10 + x.packet(2, 0), 100);
        Check.due("all three", x.way(), 3);
    }

    /** "REQUEST: 4, then 8, 16, 32 ticks behind the one before .. 64 ticks behind the fifth one: CLOSED". */
    private static void requests() {
        FlowTalk x = new FlowTalk(100L, 200L, 0);
        x.tick(5);
        x.open();
        sends("open", x, "0");
        for (int wait : new int[] {4, 8, 16, 32}) {
            x.tick(wait - 1);
            sends(wait - 1 + " ticks behind", x, "");
            x.tick(1);
            sends(wait + " ticks behind", x, "0");
        }
        x.tick(50);
        x.tick(13);
        Check.due("63 ticks behind the fifth", x.state(0) * 10 + x.way(), 20);
        x.tick(1);
        Check.due("64 ticks behind the fifth", x.state(0) * 10 + x.way(), 0);
        Check.due("no RESET", x.count(0, 14) * 10 + x.count(0, 6), -5);
        // a RESET that it sends meanwhile puts nothing off
        x.open();
        sends("open again", x, "0");
        x.tick(2);
        comes(x, 0, Wire.packet(Wire.ACK, 1, 1, Wire.NONE));
        sends("for an ACK", x, "7");
        x.tick(1);
        sends("4 ticks behind", x, "0");
    }

    /** "RESPOND: 40 ticks behind its beginning: a RESET with CODE 5, CLOSED." */
    private static void respond() {
        FlowTalk x = new FlowTalk(100L, 200L, 0);
        x.listen();
        x.tick(50);
        comes(x, 1, Wire.packet(Wire.REQUEST, 100, 0, Wire.NONE));
        sends("its beginning", x, "1");
        x.tick(30);
        comes(x, 1, Wire.packet(Wire.REQUEST, 101, 0, Wire.NONE));
        sends("another REQUEST begins nothing", x, "1");
        x.tick(8);
        Check.due("39 ticks behind", x.state(1) * 10 + x.way(), 30);
        x.tick(1);
        Check.due("40 ticks behind", x.state(1), Wire.CLOSED);
        Check.due("CODE 5", x.octet(0, 16) * 10 + x.count(1, 14), 55);
        sends("40 ticks behind", x, "7");
        x = new FlowTalk(100L, 200L, 0);
        x.listen();
        comes(x, 1, Wire.packet(Wire.REQUEST, 100, 0, Wire.NONE));
        x.tick(39);
        Wire.silence(x);
        comes(x, 1, Wire.packet(Wire.ACK, 101, 200, Wire.NONE));
        Check.due("one that comes in that very tick is first", x.state(1) * 10 + x.way(), 50);
    }

    /** "PARTOPEN: a SYNC .. every 4 ticks; 40 ticks behind its beginning: a RESET with CODE 5, CLOSED." */
    private static void partOpen() {
        FlowTalk x = new FlowTalk(100L, 200L, 0);
        x.open();
        x.tick(2);
        Wire.silence(x);
        comes(x, 0, Wire.packet(Wire.RESPONSE, 200, 100, Wire.NONE));
        sends("its beginning", x, "3");
        for (int t = 1; t < 40; t++) {
            x.tick(1);
            if (t % 4 == 0) Check.due("its ACK is HIGH", Wire.ack(Wire.bytes(x, 0)), 200);
            sends(t + " ticks behind", x, t % 4 == 0 ? "8" : "");
            Check.due("PARTOPEN still", x.state(0), Wire.PARTOPEN);
        }
        x.tick(1);
        Check.due("40 ticks behind", x.state(0) * 10 + x.octet(0, 16), 5);
        sends("40 ticks behind", x, "7");
        Check.due("CODE sent", x.count(0, 14), 5);
        // "it is not asked whether one was sent in this tick", and one that is OUT puts none off
        x = Wire.partOpen();
        comes(x, 0, Wire.packet(Wire.DATA, 9000, 0, Wire.NONE));
        sends("2 ticks behind, OUT", x, "8");
        x.tick(1);
        comes(x, 0, Wire.packet(Wire.DATA, 9000, 0, Wire.NONE));
        sends("4 ticks behind, OUT", x, "88");
    }

    /** No SYNC any more in OPEN, nor a RESET. */
    private static void partOpenIsLeft() {
        FlowTalk x = Wire.partOpen();
        comes(x, 0, Wire.packet(Wire.ACK, 201, 101, Wire.NONE));
        x.tick(50);
        Check.due("OPEN", x.state(0) * 10 + x.way(), 50);
    }

    /** "ASKED, CLOSING: ASK, CLOSE again every 6 ticks, five times in all; 6 ticks behind the fifth: a RESET with CODE 5". */
    private static void asksAndCloses() {
        for (int end = 0; end < 2; end++) {
            FlowTalk x = Wire.opened();
            x.tick(7);
            x.close(end);
            String kind = end == 0 ? "6" : "5";
            sends("close", x, kind);
            for (int n = 2; n <= 5; n++) {
                x.tick(5);
                sends("5 ticks behind", x, "");
                x.tick(1);
                sends("6 ticks behind, number " + n, x, kind);
            }
            x.tick(5);
            Check.due("5 ticks behind the fifth", x.state(end), end == 0 ? Wire.CLOSING : Wire.ASKED);
            sends("5 ticks behind the fifth", x, "");
            x.tick(1);
            Check.due("6 ticks behind the fifth", x.state(end) * 10 + x.octet(0, 16), 5);
            sends("6 ticks behind the fifth", x, "7");
        }
        // from PARTOPEN, whose SYNCS end
        FlowTalk x = Wire.partOpen();
        x.tick(2);
        x.close(0);
        Wire.silence(x);
        x.tick(5);
        sends("no SYNC", x, "");
        x.tick(1);
        sends("6 ticks behind", x, "6");
    }

    /** "ASK: CLOSING, CLOSE is sent (not if it is CLOSING already)": its times go from there. */
    private static void closingByAsk() {
        FlowTalk x = Wire.opened();
        comes(x, 0, Wire.packet(Wire.ASK, 202, 102, Wire.NONE));
        sends("ASK", x, "6");
        x.tick(4);
        comes(x, 0, Wire.packet(Wire.ASK, 203, 102, Wire.NONE));
        sends("ASK again", x, "");
        x.tick(1);
        sends("6 ticks behind", x, "6");
        x.tick(6);
        sends("12 ticks behind", x, "6");
        x.tick(6);
        sends("18 ticks behind", x, "6");
        x.tick(6);
        sends("24 ticks behind, the fifth", x, "6");
        x.tick(5);
        Check.due("29 ticks behind", x.state(0) * 10 + x.way(), 70);
        x.tick(1);
        Check.due("30 ticks behind", x.state(0) * 10 + x.octet(0, 16), 5);
    }

    /** "WAIT: 12 ticks behind its beginning CLOSED." */
    private static void waiting() {
        for (int end = 0; end < 2; end++) {
            FlowTalk x = Wire.opened();
            comes(x, end, Wire.reset(x.number(end, 2) + 1, x.number(end, 0) - 1, 1));
            Check.due("WAIT", x.state(end), Wire.WAIT);
            x.tick(5);
            comes(x, end, Wire.reset(x.number(end, 2) + 1, x.number(end, 0) - 1, 2));
            x.tick(5);
            Check.due("11 ticks behind", x.state(end) * 10 + x.way(), 80);
            Check.due("open and listen are refused", end == 0 ? x.open() : x.listen(), FlowTalk.STATE);
            x.tick(1);
            Check.due("12 ticks behind", x.state(end) * 10 + x.way(), 0);
            Check.due("open and listen", end == 0 ? x.open() : x.listen(), 1);
        }
    }

    /** "as many packets with data as the other's RATIO came since the latest ACK or BOTH that this end sent". */
    private static void ackByRatio() {
        for (int ratio : new int[] {1, 2, 3, 19, 20}) {
            for (int end = 0; end < 2; end++) {
                FlowTalk x = Wire.opened();
                comes(x, end, Wire.packet(Wire.ACK, x.number(end, 2) + 1, x.number(end, 0) - 1, new int[] {2, 4, 2, ratio}));
                sends("CONFIRM", x, "3");
                for (int n : new int[] {ratio - 1, ratio, ratio + 1}) {
                    if (n == 0) continue;
                    for (int i = 0; i < n; i++) {
                        // DATA and BOTH are like here
                        int kind = i % 2 == 0 ? Wire.DATA : Wire.BOTH;
                        Wire.post(x, end, Wire.packet(kind, x.number(end, 2) + 1 + i, x.number(end, 0) - 1, Wire.NONE));
                    }
                    x.tick(1);
                    sends("RATIO " + ratio + ", " + n + " packets", x, n < ratio ? "" : "3");
                    x.tick(2);
                    sends("later", x, n < ratio ? "3" : "");
                }
            }
        }
        // its own RATIO is no matter
        FlowTalk x = Wire.opened();
        x.want(1, 2, true, 1, 1);
        comes(x, 1, Wire.packet(Wire.ACK, 103, 201, new int[] {5, 4, 2, 1}));
        Check.due("its own RATIO", x.feature(1, 2, true, 0), 1);
        Wire.silence(x);
        comes(x, 1, Wire.packet(Wire.DATA, 104, 0, Wire.NONE));
        sends("one packet, the other's RATIO 2", x, "");
    }

    /** "or the first of them two ticks ago or more". */
    private static void ackByTime() {
        FlowTalk x = Wire.opened();
        comes(x, 1, Wire.packet(Wire.ACK, 103, 201, new int[] {2, 4, 2, 20}));
        Wire.silence(x);
        comes(x, 1, Wire.packet(Wire.DATA, 104, 0, Wire.NONE));
        sends("now", x, "");
        comes(x, 1, Wire.packet(Wire.DATA, 105, 0, Wire.NONE));
        sends("a tick ago", x, "");
        comes(x, 1, Wire.packet(Wire.DATA, 106, 0, Wire.NONE));
        sends("two ticks ago", x, "3");
        x.tick(5);
        sends("none is due", x, "");
        // an ACK in between begins anew
        comes(x, 1, Wire.packet(Wire.DATA, 107, 0, Wire.NONE));
        x.want(1, 2, true, 1, 5);
        x.tick(1);
        sends("for the CHANGE", x, "3");
        x.tick(2);
        sends("it was an ACK", x, "");
        // other packets than ACK and BOTH do not
        x = Wire.opened();
        comes(x, 1, Wire.packet(Wire.DATA, 103, 0, Wire.NONE));
        comes(x, 1, Wire.packet(Wire.SYNC, 104, 201, Wire.NONE));
        sends("an ANSWER", x, "9");
        x.tick(1);
        sends("two ticks ago", x, "3");
        // AGAIN and OUT are not counted
        comes(x, 1, Wire.packet(Wire.DATA, 105, 0, Wire.NONE));
        comes(x, 1, Wire.packet(Wire.DATA, 105, 0, Wire.NONE));
        sends("AGAIN", x, "");
        x.tick(1);
        sends("two ticks ago", x, "3");
    }

    /** "Then, in PARTOPEN, OPEN, ASKED, CLOSING, if an ACK is due .., a CONFIRM, or a CHANGE: an ACK." */
    private static void ackInEachState() {
        FlowTalk x = Wire.partOpen();
        x.want(0, 1, true, 1, 30);
        x.tick(1);
        sends("PARTOPEN, a CHANGE", x, "3");
        x = Wire.opened();
        x.close(1);
        Wire.silence(x);
        Wire.post(x, 1, Wire.packet(Wire.DATA, 103, 0, Wire.NONE));
        comes(x, 1, Wire.packet(Wire.DATA, 104, 0, Wire.NONE));
        sends("ASKED, two packets", x, "3");
        x.want(1, 1, true, 1, 30);
        x.tick(1);
        sends("ASKED, a CHANGE", x, "3");
        comes(x, 1, Wire.packet(Wire.ACK, 105, 201, new int[] {2, 4, 1, 50}));
        sends("ASKED, a CONFIRM", x, "3");
        x = Wire.opened();
        x.close(0);
        Wire.silence(x);
        Wire.post(x, 0, Wire.packet(Wire.DATA, 202, 0, Wire.NONE));
        comes(x, 0, Wire.packet(Wire.DATA, 203, 0, Wire.NONE));
        sends("CLOSING, two packets", x, "3");
        comes(x, 0, Wire.packet(Wire.ACK, 204, 102, new int[] {2, 4, 1, 50}));
        sends("CLOSING, a CONFIRM", x, "3");
        x = Wire.opened();
        comes(x, 1, Wire.packet(Wire.DATA, 103, 0, Wire.NONE));
        comes(x, 1, Wire.reset(104, 201, 0));
        x.tick(5);
        sends("WAIT: none", x, "");
        x = Wire.opened();
        comes(x, 1, Wire.packet(Wire.BOTH, 103, 201, new int[] {2, 4, 1, 50, 2, 3, 1}));
        sends("WRONG", x, "7");
        x.tick(5);
        sends("CLOSED: none", x, "");
        x = new FlowTalk(100L, 200L, 0);
        x.listen();
        x.want(1, 1, true, 1, 30);
        x.tick(10);
        sends("LISTEN: none", x, "");
        comes(x, 1, Wire.packet(Wire.REQUEST, 100, 0, new int[] {2, 4, 1, 50}));
        sends("RESPOND", x, "1");
        x.want(1, 2, true, 1, 3);
        x.tick(10);
        sends("RESPOND: none", x, "");
        x = new FlowTalk(100L, 200L, 0);
        x.open();
        x.want(0, 1, true, 1, 30);
        Wire.silence(x);
        x.tick(3);
        sends("REQUEST: none", x, "");
    }

    /** "Then, in PARTOPEN and OPEN: .. as long as there is a datagram to send"; not in REQUEST, RESPOND, CLOSING. */
    private static void dataInEachState() {
        FlowTalk x = new FlowTalk(100L, 200L, 0);
        x.listen();
        x.open();
        x.give(0, 1, 1L);
        x.tick(1);
        sends("RESPONSE", x, "1");
        x.give(1, 1, 1L);
        x.tick(2);
        sends("REQUEST and RESPOND", x, "");
        Check.due("both wait", x.count(0, 5) * 10 + x.count(1, 5), 11);
        comes(x, 0, Wire.packet(Wire.RESPONSE, 200, 100, Wire.NONE));
        sends("PARTOPEN at once", x, "34");
        comes(x, 1, Wire.packet(Wire.ACK, 101, 200, Wire.NONE));
        sends("OPEN at once", x, "2");
        x.give(0, 1, 1L);
        comes(x, 0, Wire.packet(Wire.ASK, 201, 101, Wire.NONE));
        sends("CLOSING", x, "6");
        x.tick(3);
        sends("CLOSING, later", x, "");
        Check.due("it waits for ever", x.count(0, 5), 1);
    }

    /** "a BOTH, in PARTOPEN, or if an ACK is due as told below, or a CONFIRM, or a CHANGE; else DATA". */
    private static void bothOrData() {
        FlowTalk x = Wire.partOpen();
        for (int i = 0; i < 3; i++) x.give(0, 1, 1L);
        x.tick(1);
        sends("PARTOPEN", x, "444");
        for (int why = 0; why < 5; why++) {
            x = Wire.opened();
            x.give(1, 1, 1L);
            x.give(1, 1, 1L);
            if (why == 1) Wire.post(x, 1, Wire.packet(Wire.DATA, 104, 0, Wire.NONE));
            if (why == 1) Wire.post(x, 1, Wire.packet(Wire.DATA, 105, 0, Wire.NONE));
            if (why == 2) Wire.post(x, 1, Wire.packet(Wire.ACK, 104, 201, new int[] {2, 4, 9, 9}));
            if (why == 3) x.want(1, 2, true, 1, 5);
            if (why == 4) Wire.post(x, 1, Wire.packet(Wire.DATA, 104, 0, Wire.NONE));
            x.tick(1);
            sends("why " + why, x, why == 0 || why == 4 ? "22" : "42");
        }
        // one packet came; it is due by time when a datagram is given
        x = Wire.opened();
        comes(x, 1, Wire.packet(Wire.DATA, 103, 0, Wire.NONE));
        x.tick(1);
        x.give(1, 1, 1L);
        x.tick(1);
        sends("two ticks ago", x, "4");
    }

    /** "There are 60 at most on the way: one more is lost (it is sent, for all else)." */
    private static void sixtyOnTheWay() {
        for (int free = 0; free <= 3; free++) {
            FlowTalk x = Wire.opened();
            for (int i = 0; i < 60 - free; i++) {
                x.put(0, 0, false);
                x.hold(i, 30);
            }
            x.give(0, 1, 1L);
            x.give(0, 1, 1L);
            x.tick(1);
            Check.due(free + " free: on the way", x.way(), Math.min(60, 62 - free));
            Check.due(free + " free: NEXT", x.number(0, 0), 105);
            Check.due(free + " free: sent", x.count(0, 6) * 10 + x.count(0, 0), 52);
            Check.due(free + " free: PIPE, SENT", x.sent(0, 104), 1);
            x.close(0);
            Check.due(free + " free: a CLOSE likewise", x.way() * 100 + x.state(0), Math.min(60, 63 - free) * 100 + 7);
            Check.due("NEXT", x.number(0, 0), 106);
        }
        // repeat and put: the sixtieth has room, the next one none
        FlowTalk x = new FlowTalk(0L, 0L, 0);
        x.open();
        for (int n = 2; n <= 60; n++) Check.due("repeat", x.repeat(0, 1), n);
        Check.due("repeat", x.repeat(0, 1), FlowTalk.ROOM);
        Check.due("put", x.put(0, 0, false), FlowTalk.ROOM);
        x.lose(59);
        Check.due("put", x.put(0, 0, false), 60);
        Check.due("put", x.put(0, 0, false), FlowTalk.ROOM);
        x.lose(0);
        Check.due("repeat", x.repeat(58, 0), 60);
        Check.due("repeat", x.repeat(58, 0), FlowTalk.ROOM);
    }

    /** "So many ticks (1 .. 50): the time": as many calls of one tick each. */
    private static void manyTicksAtOnce() {
        for (int n : new int[] {1, 2, 49, 50}) {
            FlowTalk x = busy(), y = busy();
            Check.due("tick " + n, x.tick(n), n + 8);
            for (int i = 1; i <= n; i++) Check.due("tick 1", y.tick(1), i + 8);
            String differs = Shown.of(x).differs(Shown.of(y));
            Check.holds("tick " + n + ": " + differs, differs == null);
        }
        FlowTalk x = new FlowTalk(0L, 0L, 0);
        Check.due("0 ticks", x.tick(0), FlowTalk.OUTSIDE);
        Check.due("51 ticks", x.tick(51), FlowTalk.OUTSIDE);
        Check.due("the time did not go on", x.tick(1), 1);
    }

    private static FlowTalk busy() {
        FlowTalk x = Wire.opened();
        for (int i = 0; i < 20; i++) {
            x.give(0, i, i);
            x.give(1, i, i);
        }
        x.want(1, 1, true, 1, 30);
        x.want(0, 4, false, 1, 2);
        return x;
    }
}
