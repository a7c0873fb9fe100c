import java.util.function.Consumer;

/**
 * "End 0 opens: REQUEST, all of it as at first (features, lists, records, windows, datagrams to send; what was
 * DELIVERED and counted stays), FIRST is NEXT"; "End 1 listens: LISTEN, all as at first likewise."
 *
 * A second life is held against the first one of a new object that begins with the same numbers.
 */
public final class LifeTest {
    public static void main(String[] args) {
        secondLife("of nothing", x -> { x.open(); x.close(0); });
        secondLife("of data", LifeTest::data);
        secondLife("of options", LifeTest::options);
        secondLife("of losses", LifeTest::losses);
        secondLife("of numbers that are higher", LifeTest::jumps);
        secondLife("that ended by time", LifeTest::byTime);
        secondLife("of many packets", LifeTest::manyPackets);
        whatStays();
        firstOfEachLife();
        Check.finish();
    }

    private static void opened(FlowTalk x) {
        x.listen();
        x.open();
        x.tick(40);
        Check.due("both are OPEN, nothing is on the way", x.state(0) * 100 + x.state(1) * 10 + x.way(), 550);
    }

    private static void data(FlowTalk x) {
        opened(x);
        for (int i = 0; i < 20; i++) {
            x.give(0, i, i);
            x.give(1, 3, i);
            x.tick(1);
        }
        for (int i = 0; i < 9; i++) x.give(0, i, i);
        Wire.post(x, 1, Wire.packet(Wire.DATA, x.number(1, 2) + 1, 0, Wire.NONE));
        Wire.post(x, 0, Wire.packet(Wire.DATA, x.number(0, 2) + 1, 0, Wire.NONE));
        x.tick(1);
        end(x);
    }

    private static void options(FlowTalk x) {
        opened(x);
        for (int end = 0; end < 2; end++) {
            int[] o = {2, 4, 1, 20, 2, 4, 2, 1, 2, 4, 3, 0, 2, 4, 4, 2, 4, 4, 3, 0, 4, 4, 4, 2, 2, 4, 9, 9};
            Wire.post(x, end, Wire.packet(Wire.ACK, x.number(end, 2) + 40, x.number(end, 0) - 1, o));
        }
        x.tick(1);
        for (int end = 0; end < 2; end++) {
            x.want(end, 1, true, 1, 33);
            x.want(end, 2, true, 1, 3);
            x.want(end, 3, true, 1, 1);
            x.want(end, 4, false, 1, 1);
        }
        // what is due stays so when a packet of options ends the life
        for (int end = 0; end < 2; end++) {
            int[] o = {2, 4, 9, 9, 2, 4, 8, 8, 1};
            Wire.post(x, end, Wire.packet(Wire.ACK, x.number(end, 2) + 9, x.number(end, 0) - 1, o));
        }
        x.tick(1);
        Check.due("CONFIRMS are due", x.count(0, 13) * 10 + x.count(1, 13), 22);
        end(x);
    }

    private static void losses(FlowTalk x) {
        opened(x);
        for (int i = 0; i < 3; i++) x.give(0, 1, 1L);
        for (int i = 0; i < 3; i++) x.give(1, 1, 1L);
        for (int i = 0; i < 12; i++) {
            x.tick(1);
            Wire.silence(x);
        }
        for (int i = 0; i < 2; i++) {
            for (int end = 0; end < 2; end++) {
                x.give(end, 1, 1L);
            }
            x.tick(1);
            Wire.silence(x);
            for (int end = 0; end < 2; end++) {
                Wire.post(x, end, Wire.packet(Wire.ACK, x.number(end, 2) + 1, x.number(end, 0) - 1, Wire.NONE));
            }
            x.tick(1);
        }
        Check.due("GROWN", x.count(0, 4) * 10 + x.count(1, 4), 11);
        for (int end = 0; end < 2; end++) for (int i = 0; i < 6; i++) x.give(end, 1, 1L);
        x.tick(1);
        end(x);
    }

    private static void byTime(FlowTalk x) {
        x.listen();
        Wire.post(x, 1, Wire.packet(Wire.REQUEST, 9, 0, Wire.NONE));
        x.open();
        for (int i = 0; i < 130; i++) {
            x.tick(1);
            Wire.silence(x);
        }
    }

    /** HIGH, LATEST, BASE far above what the second life's begin with. */
    private static void jumps(FlowTalk x) {
        opened(x);
        for (int i = 0; i < 5; i++) {
            for (int end = 0; end < 2; end++) {
                int[] o = {2, 4, 1, 100, 2, 4, 2, 2, 4, 4, 3, 1, 4, 4, 4, 1, 2, 4, 3, 1, 2, 4, 4, 1};
                Wire.post(x, end, Wire.packet(Wire.ACK, x.number(end, 2) + 70, x.number(end, 0) - 1, o));
            }
            x.tick(1);
            Wire.silence(x);
        }
        end(x);
    }

    private static void manyPackets(FlowTalk x) {
        opened(x);
        for (int k = 0; k < 6; k++) {
            for (int i = 0; i < 25; i++) {
                for (int end = 0; end < 2; end++) {
                    Wire.post(x, end, Wire.packet(Wire.SYNC, x.number(end, 2) + 1 + i, x.number(end, 0) - 1, Wire.NONE));
                }
            }
            for (int end = 0; end < 2; end++) x.give(end, 1, 1L);
            x.tick(1);
            Wire.silence(x);
        }
        end(x);
    }

    /** Both are CLOSED, and nothing is on the way. */
    private static void end(FlowTalk x) {
        for (int i = 0; i < 40 && x.state(0) + x.state(1) > 0; i++) {
            Wire.silence(x);
            for (int end = 0; end < 2; end++) {
                if (x.state(end) > Wire.REQUESTED && x.state(end) < Wire.WAIT) {
                    Wire.post(x, end, Wire.reset(x.number(end, 2) + 1, x.number(end, 0) - 1, 3));
                }
            }
            x.tick(1);
        }
        Wire.silence(x);
        Check.due("both are CLOSED", x.state(0) * 10 + x.state(1), 0);
    }

    private static void secondLife(String what, Consumer<FlowTalk> first) {
        for (int run = 0; run < 6; run++) {
            // numbers in either half of all, so that what is forgotten may lie AFTER or BEFORE what is new
            int delay = 2 * (run % 3), turn = run < 3 ? 1 : -1;
            FlowTalk x = new FlowTalk(turn * 70000L, turn * 500L, delay);
            first.accept(x);
            Wire.silence(x);
            if (x.state(0) != Wire.CLOSED || x.state(1) != Wire.CLOSED) {
                Check.holds(what + ": not ended", false);
                continue;
            }
            FlowTalk y = new FlowTalk(x.number(0, 0), x.number(1, 0), delay);
            Twins twins = new Twins(x, y);
            for (int step = 0; step < 60; step++) {
                life(x, step);
                life(y, step);
                String differs = twins.differ();
                if (differs == null) continue;
                Check.holds("the second life, behind one " + what + ", delay " + delay + ", step " + step + ": " + differs, false);
                break;
            }
        }
    }

    /** A life with data both ways, features, a loss, packets of options whose numbers are low, and an end. */
    private static void life(FlowTalk x, int step) {
        if (step == 0) x.listen();
        if (step == 1) x.open();
        if (step > 12 && step < 30) x.give(step % 2, step, step);
        if (step == 15 || step == 21) x.lose(0);
        if (step == 18) x.want(0, 1, true, 1, 44);
        if (step == 19) x.want(1, 4, true, 1, 2);
        if (step == 24) tellAll(x, 1);
        if (step == 25) tellAll(x, 0);
        if (step == 40) x.close(1);
        if (step > 1) x.tick(1);
    }

    private static void tellAll(FlowTalk x, int end) {
        int[] o = {2, 4, 2, 7, 2, 4, 3, 0, 4, 4, 3, 0, 6, 42, 63, 63, 63, 63, 63, 63, 63, 63, 63, 63, 63, 63, 63, 63, 63, 63, 63, 63, 63,
            63, 63, 63, 63, 63, 63, 63, 63, 63, 63, 63, 63, 63, 63, 63, 63, 63, 63, 63, 63, 63};
        Wire.post(x, end, Wire.packet(Wire.ACK, x.number(end, 2) + 1, x.number(end, 0) - 1, o));
    }

    /** Two objects of which one began its life later: what is shown of them, less that. */
    private static final class Twins {
        private final FlowTalk x, y;
        private final int[] counted = new int[2 * 16];
        private int time = -1;

        Twins(FlowTalk x, FlowTalk y) {
            this.x = x;
            this.y = y;
            for (int i = 0; i < counted.length; i++) counted[i] = x.count(i / 16, i % 16);
        }

        String differ() {
            if (x.way() != y.way()) return "way is " + x.way() + ", due is " + y.way();
            for (int i = 0; i < x.way(); i++) {
                if (time < 0) time = x.packet(i, 1) - y.packet(i, 1);
                if (x.packet(i, 0) != y.packet(i, 0) || x.packet(i, 1) != y.packet(i, 1) + time) return "packet " + i;
                if (!java.util.Arrays.equals(Wire.bytes(x, i), Wire.bytes(y, i))) {
                    return "bytes of " + i + " are " + java.util.Arrays.toString(Wire.bytes(x, i)) + ", due are "
                        + java.util.Arrays.toString(Wire.bytes(y, i));
                }
            }
            // an end that did not begin yet shows the life before
            for (int end = 0; end < 2; end++) {
                String differs = y.state(end) == 0 && y.count(end, 7) == 0 ? null : differ(end);
                if (differs != null) return "end " + end + ": " + differs;
            }
            return null;
        }

        private String differ(int end) {
            if (x.state(end) != y.state(end)) return "state is " + x.state(end) + ", due is " + y.state(end);
            for (int what = 0; what < 6; what++) if (x.number(end, what) != y.number(end, what)) return "number " + what;
            for (int what = 0; what < 14; what++) {
                boolean stays = what >= 6 && what <= 11;
                if (x.count(end, what) - (stays ? counted[end * 16 + what] : 0) != y.count(end, what)) return "count " + what;
            }
            for (int i = 0; i < 48; i++) {
                if (x.feature(end, 1 + i % 4, i < 24, i / 4 % 6) != y.feature(end, 1 + i % 4, i < 24, i / 4 % 6)) return "feature";
            }
            for (int behind = -1; behind <= 256; behind++) {
                if (x.seen(end, y.number(end, 2) - behind) != y.seen(end, y.number(end, 2) - behind)) return "seen " + behind;
                if (x.sent(end, y.number(end, 0) - behind) != y.sent(end, y.number(end, 0) - behind)) return "sent " + behind;
            }
            return null;
        }
    }

    /** "what was DELIVERED and counted stays". */
    private static void whatStays() {
        FlowTalk x = new FlowTalk(70000L, 500L, 0);
        opened(x);
        x.give(0, 5, 9L);
        x.give(1, 6, 9L);
        x.tick(2);
        for (int end = 0; end < 2; end++) {
            Wire.post(x, end, Wire.packet(Wire.ACK, 1, 1, Wire.NONE));
            Wire.post(x, end, Wire.packet(Wire.ACK, x.number(end, 2), x.number(end, 0) - 1, Wire.NONE));
            x.put(end, 0, false);
        }
        x.tick(1);
        end(x);
        int[] before = new int[32];
        for (int i = 0; i < 32; i++) before[i] = x.count(i / 16, i % 16);
        Check.due("BAD, OUT, AGAIN, DELIVERED", before[8] * 1000 + before[9] * 100 + before[10] * 10 + before[11], 1111);
        x.listen();
        x.open();
        for (int end = 0; end < 2; end++) {
            for (int what = 6; what <= 15; what++) {
                if (what == 12 || what == 13) continue;
                int more = what == 6 && end == 0 ? 1 : 0;
                Check.due("count " + what + " of end " + end, x.count(end, what), before[16 * end + what] + more);
            }
            Check.due("the datagram", x.got(end, 0, -1) * 100 + x.got(end, 0, 0), (end == 0 ? 6 : 5) * 100 + 9);
        }
        x.tick(8);
        x.give(0, 7, 9L);
        x.tick(2);
        Check.due("the next one is behind it", x.got(1, 1, -1) * 10 + x.count(1, 11), 72);
    }

    /** "FIRST is NEXT"; "2 to 4: 0 before it got a packet since it opened or listened". */
    private static void firstOfEachLife() {
        FlowTalk x = new FlowTalk(-2L, 500L, 0);
        x.open();
        Check.due("FIRST", x.number(0, 1), (1L << 48) - 2);
        x.close(0);
        Check.due("FIRST stays", x.number(0, 1), (1L << 48) - 2);
        Check.due("NEXT went around", x.number(0, 0), 0);
        x.open();
        Check.due("FIRST", x.number(0, 1), 0);
        Check.due("of the life before", x.sent(0, -1), -1);
        Check.due("of this one", x.sent(0, 0), 0);
        x = Wire.opened();
        for (int end = 0; end < 2; end++) Wire.post(x, end, Wire.reset(x.number(end, 2) + 1, x.number(end, 0) - 1, 0));
        x.tick(1);
        long[] highs = {202, 103};
        x.tick(12);
        for (int end = 0; end < 2; end++) Check.due("HIGH when CLOSED", x.number(end, 2), highs[end]);
        x.open();
        x.listen();
        for (int end = 0; end < 2; end++) {
            for (int what = 2; what <= 4; what++) Check.due("number " + what, x.number(end, what), 0);
            Check.due("seen", x.seen(end, 0), -1);
            Check.due("seen", x.seen(end, highs[end]), -1);
        }
        x.tick(1);
        Check.due("HIGH, MET, BASE by the REQUEST", x.number(1, 2) - x.number(1, 3) + x.number(1, 4), x.number(0, 1));
    }
}
