/** Parts 3, 4 and 6 but for options and windows: states, what fits, what goes back, and when. */
public final class EndTest {
    public static void main(String[] args) {
        closedAndWait();
        listening();
        requesting();
        numbersThatFit();
        acksThatFit();
        numbersGoAround();
        syncOnceATick();
        kindsThatDoNotBelong();
        again();
        opening();
        closing();
        requestTimes();
        respondAndPartOpenTimes();
        closingTimes();
        acksAreDue();
        vectors();
        sixtyOnTheWay();
        orderOfComing();
        Check.finish();
    }

    private static void kindIs(String what, FlowTalk x, int i, int kind) {
        Check.due(what + ": kind", x.octet(i, 0), kind);
    }

    private static void resets(String what, FlowTalk x, int code) {
        Check.due(what + ": one packet", x.way(), 1);
        kindIs(what, x, 0, Wire.RESET);
        Check.due(what + ": CODE", x.octet(0, 16), code);
        Wire.silence(x);
    }

    private static void comes(FlowTalk x, int end, int... bytes) {
        Wire.post(x, end, bytes);
        x.tick(1);
    }

    private static void closedAndWait() {
        FlowTalk x = new FlowTalk(100L, 200L, 0);
        for (int kind = 0; kind < 10; kind++) {
            if (kind == Wire.RESET) continue;
            comes(x, 1, Wire.packet(kind, 5, 6, Wire.NONE));
            Check.due("its ACK is 0 before any", Wire.ack(Wire.bytes(x, 0)), 0);
            Check.due("to the other end", x.packet(0, 0), 0);
            resets("CLOSED, kind " + kind, x, 1);
        }
        comes(x, 1, Wire.reset(5, 6, 7));
        Check.due("CLOSED: not for a RESET", x.way(), 0);
        Check.due("that RESET is not heard", x.count(1, 15), -1);
        x = Wire.opened();
        comes(x, 0, Wire.reset(202, 102, 44));
        Check.due("RESET: WAIT", x.state(0), Wire.WAIT);
        Check.due("its CODE", x.count(0, 15), 44);
        comes(x, 0, Wire.packet(Wire.ACK, 203, 102, Wire.NONE));
        Check.due("its ACK is HIGH", Wire.ack(Wire.bytes(x, 0)), 202);
        resets("WAIT", x, 1);
        comes(x, 0, Wire.reset(203, 102, 45));
        Check.due("WAIT: not for a RESET", x.way() * 100 + x.count(0, 15), 44);
        x.tick(9);
        Check.due("11 ticks behind", x.state(0), Wire.WAIT);
        x.tick(1);
        Check.due("12 ticks behind", x.state(0), Wire.CLOSED);
    }

    private static void listening() {
        FlowTalk x = new FlowTalk(100L, 200L, 0);
        x.listen();
        for (int kind = 1; kind < 10; kind++) {
            if (kind == Wire.RESET) continue;
            comes(x, 1, Wire.packet(kind, 5, 200, Wire.NONE));
            resets("LISTEN, kind " + kind, x, 1);
            Check.due("LISTEN still", x.state(1), Wire.LISTEN);
        }
        comes(x, 1, Wire.reset(5, 200, 7));
        Check.due("LISTEN: not for a RESET", x.way() * 10 + x.state(1), Wire.LISTEN);
        comes(x, 1, Wire.packet(Wire.REQUEST, 77, 0, Wire.NONE));
        Check.due("RESPOND", x.state(1), Wire.RESPOND);
        kindIs("a RESPONSE", x, 0, Wire.RESPONSE);
        Check.due("its ACK", Wire.ack(Wire.bytes(x, 0)), 77);
        Check.due("MET", x.number(1, 3), 77);
        Check.due("HIGH", x.number(1, 2), 77);
        Check.due("BASE", x.number(1, 4), 77);
        Check.due("GOT", x.seen(1, 77), 1);
        Wire.silence(x);
        comes(x, 1, Wire.packet(Wire.REQUEST, 78, 0, Wire.NONE));
        kindIs("RESPOND: another REQUEST, a RESPONSE", x, 0, Wire.RESPONSE);
        Check.due("RESPOND still", x.state(1), Wire.RESPOND);
        Check.due("MET stays", x.number(1, 3), 77);
    }

    private static void requesting() {
        FlowTalk x = new FlowTalk(100L, 200L, 0);
        x.open();
        Wire.silence(x);
        for (int kind = 0; kind < 10; kind++) {
            if (kind == Wire.RESET) continue;
            long ack = kind == Wire.RESPONSE ? 99 : x.number(0, 0) - 1;
            comes(x, 0, Wire.packet(kind, 5, ack, Wire.NONE));
            Check.due("REQUEST still", x.state(0), Wire.REQUESTED);
            for (int i = x.way() - 1; i > 0; i--) if (x.octet(i, 0) == Wire.REQUEST) x.lose(i);
            resets("REQUEST, kind " + kind, x, 2);
        }
        comes(x, 0, Wire.reset(5, 99, 1));
        Check.due("a RESET whose ACK is before FIRST", x.state(0), Wire.REQUESTED);
        comes(x, 0, Wire.reset(5, x.number(0, 0), 1));
        Check.due("a RESET whose ACK is NEXT", x.state(0), Wire.REQUESTED);
        Check.due("none is heard", x.count(0, 15), -1);
        comes(x, 0, Wire.reset(5, 100, 6));
        Check.due("a RESET whose ACK fits", x.state(0), Wire.CLOSED);
        Check.due("its CODE", x.count(0, 15), 6);
        x = new FlowTalk(100L, 200L, 0);
        x.open();
        Wire.silence(x);
        comes(x, 0, Wire.packet(Wire.RESPONSE, 500, 100, Wire.NONE));
        Check.due("PARTOPEN", x.state(0), Wire.PARTOPEN);
        Check.due("MET and HIGH", x.number(0, 3) + x.number(0, 2), 1000);
        kindIs("an ACK", x, 0, Wire.ACK);
        Check.due("its ACK", Wire.ack(Wire.bytes(x, 0)), 500);
    }

    /** End 1 has HIGH 102, MET 100, W 100: it takes 102 + 1 - 25 .. and 99 more, from MET on. */
    private static void numbersThatFit() {
        long[] numbers = {100 - 1, 102 + 75, 102 + 76, 102 + 1000, 78, 77};
        boolean[] fit = {false, true, false, false, false, false};
        for (int i = 0; i < numbers.length; i++) {
            FlowTalk x = Wire.opened();
            comes(x, 1, Wire.packet(Wire.DATA, numbers[i], 0, Wire.NONE));
            Check.due("number " + numbers[i] + " fits", x.count(1, 11), fit[i] ? 1 : 0);
            Check.due("OUT", x.count(1, 9), fit[i] ? 0 : 1);
            if (fit[i]) continue;
            kindIs("a SYNC", x, 0, Wire.SYNC);
            Check.due("its ACK is that number", Wire.ack(Wire.bytes(x, 0)), numbers[i]);
            Check.due("HIGH stays", x.number(1, 2), 102);
        }
        FlowTalk x = Wire.opened();
        comes(x, 1, Wire.packet(Wire.DATA, 170, 0, Wire.NONE));
        comes(x, 1, Wire.packet(Wire.DATA, 146, 0, Wire.NONE));
        comes(x, 1, Wire.packet(Wire.DATA, 145, 0, Wire.NONE));
        Check.due("W / 4 - 1 behind HIGH", x.seen(1, 146), 1);
        Check.due("W / 4 behind HIGH", x.seen(1, 145), 0);
        Check.due("OUT", x.count(1, 9), 1);
        x = Wire.opened();
        comes(x, 1, Wire.packet(Wire.ACK, 103, 201, new int[] {2, 4, 1, 18}));
        comes(x, 1, Wire.packet(Wire.DATA, 103 + 15, 0, Wire.NONE));
        Check.due("W 18: HIGH + 15 does not fit", x.count(1, 9), 1);
        comes(x, 1, Wire.packet(Wire.DATA, 103 + 14, 0, Wire.NONE));
        Check.due("W 18: HIGH + 14 fits", x.number(1, 2), 117);
    }

    private static void acksThatFit() {
        FlowTalk x = Wire.opened();
        comes(x, 1, Wire.packet(Wire.ACK, 103, 202, Wire.NONE));
        Check.due("ACK is NEXT: OUT", x.count(1, 9), 1);
        comes(x, 1, Wire.packet(Wire.ACK, 103, 199, Wire.NONE));
        Check.due("ACK is before FIRST: OUT", x.count(1, 9), 2);
        comes(x, 1, Wire.packet(Wire.ACK, 103, 200, Wire.NONE));
        Check.due("ACK is FIRST", x.number(1, 2), 103);
        for (int i = 0; x.number(1, 0) < 301; i++) comes(x, 1, Wire.packet(Wire.SYNC, 104 + i, x.number(1, 0) - 1, Wire.NONE));
        Wire.silence(x);
        int out = x.count(1, 9);
        comes(x, 1, Wire.packet(Wire.ACK, x.number(1, 2) + 1, 201, Wire.NONE));
        Check.due("NEXT - 1 less ACK is 99", x.count(1, 9), out);
        comes(x, 1, Wire.packet(Wire.ACK, x.number(1, 2) + 1, 200, Wire.NONE));
        Check.due("NEXT - 1 less ACK is 100", x.count(1, 9), out + 1);
    }

    private static void numbersGoAround() {
        long top = (1L << 48) - 1;
        FlowTalk x = new FlowTalk(top - 1, top, 0);
        x.listen();
        x.open();
        x.tick(8);
        for (int i = 0; i < 6; i++) {
            x.give(0, 1, i);
            x.give(1, 1, i);
            x.tick(1);
        }
        x.tick(6);
        Check.due("both OPEN", x.state(0) * 10 + x.state(1), 55);
        Check.due("all came", x.count(0, 11) * 10 + x.count(1, 11), 66);
        Check.due("none is OUT", x.count(0, 9) + x.count(1, 9), 0);
        Check.due("NEXT went around", x.number(0, 0) < 100 ? 1 : 0, 1);
        Check.due("GOT around", x.seen(1, -1), 1);
        Check.due("SENT around", x.sent(0, -2), 0);
    }

    private static void syncOnceATick() {
        FlowTalk x = Wire.opened();
        Wire.post(x, 1, Wire.packet(Wire.DATA, 9000, 0, Wire.NONE));
        Wire.post(x, 1, Wire.packet(Wire.DATA, 9001, 0, Wire.NONE));
        Wire.post(x, 1, Wire.packet(Wire.REQUEST, 104, 0, Wire.NONE));
        x.tick(1);
        Check.due("both are OUT", x.count(1, 9), 2);
        Check.due("one SYNC in a tick", x.way(), 1);
        Wire.silence(x);
        comes(x, 1, Wire.packet(Wire.DATA, 9002, 0, Wire.NONE));
        kindIs("a SYNC in the next one", x, 0, Wire.SYNC);
        Wire.silence(x);
        comes(x, 1, Wire.packet(Wire.SYNC, 9000, 201, Wire.NONE));
        comes(x, 1, Wire.packet(Wire.ANSWER, 9000, 201, Wire.NONE));
        comes(x, 1, Wire.reset(9000, 201, 1));
        Check.due("none for SYNC, ANSWER, RESET", x.way(), 0);
        Check.due("but they are OUT", x.count(1, 9), 6);
        Check.due("and not heard", x.state(1), Wire.OPEN);
    }

    private static void kindsThatDoNotBelong() {
        for (int kind : new int[] {Wire.REQUEST, Wire.RESPONSE, Wire.ASK}) {
            FlowTalk x = Wire.opened();
            comes(x, 1, Wire.packet(kind, 103, 201, Wire.NONE));
            kindIs("to end 1 in OPEN, kind " + kind, x, 0, Wire.SYNC);
            Check.due("its ACK", Wire.ack(Wire.bytes(x, 0)), 103);
            Check.due("not OUT, not GOT", x.count(1, 9) * 1000 + x.number(1, 2), 102);
            Check.due("OPEN still", x.state(1), Wire.OPEN);
        }
        FlowTalk x = Wire.partOpen();
        comes(x, 0, Wire.packet(Wire.RESPONSE, 200, 101, Wire.NONE));
        kindIs("a RESPONSE in PARTOPEN", x, 0, Wire.ACK);
        Check.due("it is not AGAIN", x.count(0, 10), 0);
        Check.due("PARTOPEN still", x.state(0), Wire.PARTOPEN);
        Wire.silence(x);
        comes(x, 0, Wire.packet(Wire.REQUEST, 201, 0, Wire.NONE));
        kindIs("a REQUEST in PARTOPEN", x, 0, Wire.SYNC);
        x = new FlowTalk(100L, 200L, 0);
        x.listen();
        x.open();
        x.tick(1);
        Wire.silence(x);
        comes(x, 1, Wire.packet(Wire.RESPONSE, 101, 200, Wire.NONE));
        kindIs("a RESPONSE in RESPOND", x, 0, Wire.SYNC);
        Check.due("RESPOND still", x.state(1), Wire.RESPOND);
    }

    private static void again() {
        FlowTalk x = Wire.opened();
        Wire.post(x, 1, Wire.packet(Wire.DATA, 103, 0, Wire.NONE, 5));
        x.repeat(0, 0);
        x.repeat(0, 3);
        x.tick(1);
        Check.due("AGAIN", x.count(1, 10), 1);
        Check.due("DELIVERED once", x.count(1, 11), 1);
        Wire.silence(x);
        comes(x, 1, Wire.packet(Wire.SYNC, 103, 201, Wire.NONE));
        Check.due("AGAIN, whatever it is", x.count(1, 10), 2);
        Check.due("no ANSWER", x.way(), 0);
    }

    private static void opening() {
        int[] opens = {Wire.DATA, Wire.ACK, Wire.BOTH, Wire.SYNC, Wire.ANSWER};
        for (int kind : opens) {
            FlowTalk x = new FlowTalk(100L, 200L, 0);
            x.listen();
            x.open();
            x.tick(1);
            Wire.silence(x);
            comes(x, 1, Wire.packet(kind, 101, 200, Wire.NONE));
            Check.due("RESPOND, kind " + kind + ": OPEN", x.state(1), Wire.OPEN);
            Check.due("its data are DELIVERED", x.count(1, 11), kind == Wire.DATA || kind == Wire.BOTH ? 1 : 0);
            x = Wire.partOpen();
            comes(x, 0, Wire.packet(kind, 201, 101, Wire.NONE));
            Check.due("PARTOPEN, kind " + kind, x.state(0), kind == Wire.SYNC ? Wire.PARTOPEN : Wire.OPEN);
        }
        FlowTalk x = Wire.partOpen();
        comes(x, 0, Wire.packet(Wire.SYNC, 201, 101, Wire.NONE));
        kindIs("SYNC: an ANSWER", x, 0, Wire.ANSWER);
        Check.due("its ACK is the SYNC's number", Wire.ack(Wire.bytes(x, 0)), 201);
        x = Wire.partOpen();
        comes(x, 0, Wire.packet(Wire.ASK, 201, 101, Wire.NONE));
        Check.due("ASK in PARTOPEN: CLOSING", x.state(0), Wire.CLOSING);
    }

    private static void closing() {
        FlowTalk x = Wire.opened();
        x.give(0, 1, 1L);
        comes(x, 0, Wire.packet(Wire.ASK, 202, 102, Wire.NONE));
        Check.due("ASK: CLOSING", x.state(0), Wire.CLOSING);
        kindIs("ASK: a CLOSE", x, 0, Wire.CLOSE);
        Check.due("CLOSING sends no datagrams", x.way(), 1);
        Check.due("they stay", x.count(0, 5), 1);
        Wire.silence(x);
        comes(x, 0, Wire.packet(Wire.ASK, 203, 102, Wire.NONE));
        Check.due("ASK in CLOSING: nothing", x.way(), 0);
        comes(x, 0, Wire.packet(Wire.DATA, 204, 0, Wire.NONE, 8));
        Check.due("DATA in CLOSING is DELIVERED", x.count(0, 11), 1);
        x.tick(2);
        kindIs("and an ACK goes", x, 0, Wire.ACK);
        Wire.silence(x);
        comes(x, 0, Wire.packet(Wire.CLOSE, 205, 102, Wire.NONE));
        resets("CLOSE", x, 0);
        Check.due("CLOSE: CLOSED", x.state(0), Wire.CLOSED);
        x = Wire.opened();
        x.close(1);
        Wire.silence(x);
        comes(x, 1, Wire.packet(Wire.BOTH, 103, 201, Wire.NONE, 8));
        Check.due("BOTH in ASKED is DELIVERED", x.count(1, 11), 1);
        comes(x, 1, Wire.packet(Wire.CLOSE, 104, 201, Wire.NONE));
        Check.due("CLOSE in ASKED: CLOSED", x.state(1), Wire.CLOSED);
    }

    private static void requestTimes() {
        FlowTalk x = new FlowTalk(100L, 200L, 0);
        x.tick(7);
        x.open();
        Wire.silence(x);
        int[] sendAt = {11, 19, 35, 67};
        int sent = 0;
        for (int t = 8; t <= 7 + 124; t++) {
            x.tick(1);
            boolean due = sent < 4 && t == sendAt[sent];
            Check.due("REQUEST again at " + t, x.way(), due ? 1 : 0);
            if (due) Check.due("with the next number", Wire.number(Wire.bytes(x, 0)), 101 + sent++);
            Wire.silence(x);
            Check.due("state at " + t, x.state(0), t < 131 ? Wire.REQUESTED : Wire.CLOSED);
        }
        Check.due("without a RESET", x.count(0, 14), -1);
    }

    private static void respondAndPartOpenTimes() {
        FlowTalk x = new FlowTalk(100L, 200L, 0);
        x.listen();
        x.open();
        x.tick(1);
        x.close(0);
        Wire.silence(x);
        x.tick(39);
        Check.due("RESPOND, 39 ticks behind", x.state(1) * 10 + x.way(), 30);
        x.tick(1);
        Check.due("RESPOND, 40 ticks behind", x.state(1), Wire.CLOSED);
        resets("RESPOND, 40 ticks behind", x, 5);
        x = Wire.partOpen();
        Wire.silence(x);
        for (int t = 4; t < 42; t++) {
            x.tick(1);
            boolean due = (t - 2) % 4 == 0;
            Check.due("PARTOPEN's SYNC at " + t, x.way(), due ? 1 : 0);
            if (due) Check.due("a SYNC whose ACK is HIGH", x.octet(0, 0) * 1000 + Wire.ack(Wire.bytes(x, 0)), 8200);
            Wire.silence(x);
        }
        Check.due("PARTOPEN still", x.state(0), Wire.PARTOPEN);
        x.tick(1);
        Check.due("PARTOPEN, 40 ticks behind", x.state(0), Wire.CLOSED);
        resets("PARTOPEN, 40 ticks behind", x, 5);
        x = Wire.partOpen();
        x.tick(2);
        Wire.post(x, 0, Wire.packet(Wire.DATA, 9000, 0, Wire.NONE));
        x.tick(1);
        Check.due("PARTOPEN: a SYNC though one was sent in this tick", x.way(), 2);
    }

    private static void closingTimes() {
        for (int end = 0; end < 2; end++) {
            FlowTalk x = Wire.opened();
            x.close(end);
            int kind = end == 0 ? Wire.CLOSE : Wire.ASK;
            Wire.silence(x);
            for (int t = 1; t < 30; t++) {
                x.tick(1);
                Check.due("again every 6 ticks, at " + t, x.way(), t % 6 == 0 ? 1 : 0);
                if (t % 6 == 0) kindIs("again", x, 0, kind);
                Wire.silence(x);
            }
            x.tick(1);
            resets("6 ticks behind the fifth", x, 5);
            Check.due("CLOSED", x.state(end), Wire.CLOSED);
        }
    }

    private static void acksAreDue() {
        FlowTalk x = Wire.opened();
        comes(x, 1, Wire.packet(Wire.DATA, 103, 0, Wire.NONE));
        Check.due("one packet: none yet", x.way(), 0);
        x.tick(1);
        Check.due("a tick later: none yet", x.way(), 0);
        x.tick(1);
        kindIs("two ticks later", x, 0, Wire.ACK);
        Wire.silence(x);
        comes(x, 1, Wire.packet(Wire.DATA, 104, 0, Wire.NONE));
        comes(x, 1, Wire.packet(Wire.DATA, 105, 0, Wire.NONE));
        kindIs("as many as RATIO", x, 0, Wire.ACK);
        Wire.silence(x);
        x.tick(9);
        Check.due("then none is due", x.way(), 0);
        comes(x, 1, Wire.packet(Wire.ACK, 106, 201, new int[] {2, 4, 2, 1}));
        Wire.silence(x);
        comes(x, 1, Wire.packet(Wire.DATA, 107, 0, Wire.NONE));
        Check.due("RATIO 1: at once", x.way(), 1);
        Wire.silence(x);
        x.give(1, 1, 1L);
        x.give(1, 1, 1L);
        comes(x, 1, Wire.packet(Wire.DATA, 108, 0, Wire.NONE));
        kindIs("with data to send, a BOTH", x, 0, Wire.BOTH);
        kindIs("then DATA", x, 1, Wire.DATA);
        Check.due("and no ACK", x.way(), 2);
        x = Wire.partOpen();
        x.give(0, 1, 1L);
        x.give(0, 1, 1L);
        x.tick(1);
        kindIs("PARTOPEN: BOTH", x, 0, Wire.BOTH);
        kindIs("PARTOPEN: BOTH again", x, 1, Wire.BOTH);
        Check.due("no ANSWER counts", x.way(), 2);
    }

    private static void vectorIs(String what, FlowTalk x, int i, int... rows) {
        int[] o = Wire.options(Wire.bytes(x, i));
        boolean same = rows.length == 0 ? o.length == 0 : o.length == rows.length + 2 && o[0] == 6 && o[1] == o.length;
        for (int k = 0; same && k < rows.length; k++) same = o[k + 2] == rows[k];
        Check.holds(what + ": " + java.util.Arrays.toString(o), same);
    }

    private static void vectors() {
        FlowTalk x = Wire.opened();
        Wire.post(x, 1, Wire.packet(Wire.DATA, 104, 0, Wire.NONE));
        comes(x, 1, Wire.packet(Wire.DATA, 107, 0, Wire.NONE));
        vectorIs("107 got, 106 105 not, 104 got, 103 not, 102 .. 100 got", x, 0, 0, 193, 0, 192, 2);
        Check.due("sent as 202", Wire.number(Wire.bytes(x, 0)), 202);
        Wire.silence(x);
        comes(x, 1, Wire.packet(Wire.ACK, 108, 202, Wire.NONE));
        Check.due("told to be got: BASE is 1 more than HIGH was", x.number(1, 4), 108);
        comes(x, 1, Wire.packet(Wire.ACK, 109, 201, Wire.NONE));
        Check.due("one without VECTOR: BASE stays", x.number(1, 4), 108);
        Wire.post(x, 1, Wire.packet(Wire.DATA, 110, 0, Wire.NONE));
        comes(x, 1, Wire.packet(Wire.DATA, 105, 0, Wire.NONE));
        vectorIs("down to BASE", x, 0, 2);
        Wire.silence(x);
        Wire.post(x, 1, Wire.packet(Wire.DATA, 185, 0, Wire.NONE));
        Wire.post(x, 1, Wire.packet(Wire.DATA, 250, 0, Wire.NONE));
        x.tick(1);
        vectorIs("100 numbers, rows of 64", x, 0, 0, 192 + 63, 0 + 0, 192 + 33);
        longVector();
        emptyVector();
        manyVectorsInOne();
    }

    private static void longVector() {
        FlowTalk x = Wire.opened();
        for (int i = 0; i < 45; i++) {
            comes(x, 1, Wire.packet(Wire.DATA, 104 + 2 * i, 0, Wire.NONE));
            Wire.silence(x);
        }
        Wire.post(x, 1, Wire.packet(Wire.DATA, 194, 0, Wire.NONE));
        Wire.post(x, 1, Wire.packet(Wire.DATA, 196, 0, Wire.NONE));
        x.tick(1);
        Check.due("40 rows at most", x.octet(0, 1), 42);
    }

    private static void emptyVector() {
        FlowTalk x = Wire.opened();
        Wire.post(x, 1, Wire.packet(Wire.DATA, 103, 0, Wire.NONE));
        comes(x, 1, Wire.packet(Wire.DATA, 104, 0, Wire.NONE));
        Wire.silence(x);
        Wire.post(x, 1, Wire.packet(Wire.BOTH, 106, 202, Wire.NONE));
        comes(x, 1, Wire.packet(Wire.DATA, 105, 0, Wire.NONE));
        Check.due("BASE", x.number(1, 4), 105);
        vectorIs("two numbers", x, 0, 1);
        Wire.silence(x);
        // 102 comes AGAIN, so HIGH is 106 when 203 is told to be got by a number below it
        FlowTalk y = Wire.opened();
        Wire.post(y, 1, Wire.packet(Wire.DATA, 104, 0, Wire.NONE));
        comes(y, 1, Wire.packet(Wire.DATA, 110, 0, Wire.NONE));
        Wire.silence(y);
        Wire.post(y, 1, Wire.packet(Wire.BOTH, 108, 202, Wire.NONE));
        comes(y, 1, Wire.packet(Wire.DATA, 109, 0, Wire.NONE));
        Check.due("BASE is HIGH + 1", y.number(1, 4), 111);
        vectorIs("no numbers, no VECTOR", y, 0);
    }

    private static void manyVectorsInOne() {
        FlowTalk x = Wire.opened();
        for (int i = 0; i < 3; i++) x.give(1, 1, 1L);
        x.tick(1);
        Wire.silence(x);
        comes(x, 1, Wire.packet(Wire.ACK, 103, 204, new int[] {6, 4, 192, 0, 1, 6, 4, 193, 0}));
        Check.due("each from ACK downwards: 204 by ACK", x.sent(1, 204), 2);
        Check.due("203 by the first VECTOR", x.sent(1, 203), 2);
        Check.due("202 by the second one", x.sent(1, 202), 2);
    }

    private static void sixtyOnTheWay() {
        FlowTalk x = Wire.opened();
        for (int i = 0; i < 60; i++) {
            Wire.feed(x, 0);
            x.put(0, 0, false);
        }
        for (int i = 0; i < 60; i++) x.hold(i, 10);
        x.give(0, 1, 1L);
        x.tick(1);
        Check.due("one more is lost", x.way(), 60);
        Check.due("but sent for all else", x.count(0, 0) * 10 + x.count(0, 5), 10);
        Check.due("NEXT", x.number(0, 0), 104);
        Wire.silence(x);
        for (int i = 0; i < 30; i++) {
            Wire.post(x, 1, Wire.packet(Wire.SYNC, x.number(1, 2) + 1 + i, 201, Wire.NONE));
            Wire.post(x, 0, Wire.packet(Wire.SYNC, x.number(0, 2) + 1 + i, 102, Wire.NONE));
        }
        x.tick(1);
        Check.due("each that comes makes room", x.way(), 60);
    }

    private static void orderOfComing() {
        FlowTalk x = Wire.opened();
        Wire.post(x, 1, Wire.packet(Wire.DATA, 105, 0, Wire.NONE, 1));
        x.hold(0, 2);
        x.tick(1);
        Wire.post(x, 1, Wire.packet(Wire.DATA, 104, 0, Wire.NONE, 2));
        x.hold(1, 1);
        x.tick(1);
        Wire.post(x, 1, Wire.packet(Wire.DATA, 103, 0, Wire.NONE, 3));
        Wire.post(x, 0, Wire.packet(Wire.DATA, 202, 0, Wire.NONE, 4));
        x.tick(1);
        Check.due("in the order in which they came on the way", x.got(1, 0, 0) * 100 + x.got(1, 1, 0) * 10 + x.got(1, 2, 0), 123);
        Check.due("each to its end", x.got(0, 0, 0), 4);
    }
}
