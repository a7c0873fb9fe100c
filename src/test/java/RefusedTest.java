import java.util.ArrayList;
import java.util.List;
import java.util.function.Consumer;
import java.util.function.ToLongFunction;

/**
 * "UNKNOWN, OUTSIDE, STATE, ROOM are told by calls that do nothing else; of several the first one in the order in
 * which a call names them."
 *
 * Objects are brought to a stage; then one of two twins hears every call that is refused there. What is shown must
 * be the same behind each, and also behind later calls to both, since those show what no call shows at once:
 * the tape, times, what is due.
 */
public final class RefusedTest {
    private static final int UNKNOWN = FlowTalk.UNKNOWN, OUTSIDE = FlowTalk.OUTSIDE, STATE = FlowTalk.STATE,
        ROOM = FlowTalk.ROOM;
    private static final int LOW = Integer.MIN_VALUE, HIGH = Integer.MAX_VALUE;

    private record Refused(String name, ToLongFunction<FlowTalk> call, int due) {
    }

    private static final List<Refused> calls = new ArrayList<>();

    private static void add(String name, int due, ToLongFunction<FlowTalk> call) {
        calls.add(new Refused(name, call, due));
    }

    public static void main(String[] args) {
        stage("new", 0, x -> { });
        stage("tape", 40, x -> { x.feed(1, 2, 3, 4, 5); x.feed(6, 7, 8, 9, 10); });
        stage("LISTEN", 0, x -> x.listen());
        stage("LISTEN, wanting", 0, x -> { x.listen(); x.want(1, 3, true, 1, 0); });
        stage("REQUEST", 20, x -> { x.open(); x.give(0, 3, 7L); x.want(0, 1, true, 1, 40); x.feed(1, 2, 3, 4, 5); });
        stage("REQUEST, 20 to send", 0, x -> { x.open(); giveAll(x, 0); });
        stage("CLOSED, 20 to send", 0, x -> { x.open(); giveAll(x, 0); x.close(0); });
        stage("RESPOND", 0, x -> { x.listen(); x.open(); x.tick(1); x.give(1, 4, 5L); });
        stage("PARTOPEN", 0, x -> { x.listen(); x.open(); x.tick(2); x.give(0, 4, 5L); });
        stage("OPEN", 0, x -> { opened(x); x.want(0, 4, false, 1, 2); x.tick(1); });
        stage("OPEN, data under way", 0, x -> { opened(x); giveAll(x, 0); x.give(1, 0, 0L); x.tick(2); x.lose(0); });
        stage("OPEN, 20 to send", 0, x -> { opened(x); giveAll(x, 0); giveAll(x, 1); });
        stage("OPEN, 60 on the way", 20, RefusedTest::crowded);
        stage("OPEN, 220 on the tape", 220, x -> { opened(x); for (int i = 0; i < 11; i++) x.feed(i, -i, 3, 4, 5); });
        stage("ASKED", 0, x -> { opened(x); x.give(1, 1, 1L); x.tick(2); x.close(1); });
        stage("CLOSING", 0, x -> { opened(x); x.close(0); Wire.silence(x); x.tick(3); });
        stage("CLOSING, 20 to send", 0, x -> { opened(x); giveAll(x, 0); x.close(1); x.tick(1); });
        stage("WAIT", 0, x -> { opened(x); x.close(1); x.tick(4); });
        stage("CLOSED behind WAIT", 0, x -> { opened(x); x.close(1); x.tick(16); });
        firstOfSeveral();
        Check.finish();
    }

    private static void opened(FlowTalk x) {
        x.listen();
        x.open();
        x.tick(8);
    }

    private static void giveAll(FlowTalk x, int end) {
        for (int i = 0; i < 20; i++) x.give(end, i, 11L * i);
    }

    private static void crowded(FlowTalk x) {
        opened(x);
        x.give(0, 2, 3L);
        x.tick(1);
        for (int i = x.way(); i < 60; i++) x.repeat(0, i % 7);
        x.feed(5, 4, 3, 2, 1);
    }

    private static void stage(String name, int taped, Consumer<FlowTalk> way) {
        FlowTalk x = new FlowTalk(1000L, -3L, 0), twin = new FlowTalk(1000L, -3L, 0);
        way.accept(x);
        way.accept(twin);
        calls.clear();
        byEnd(x);
        byWay(x);
        byTape(x, taped);
        byAsking(x);
        Shown before = Shown.of(x);
        for (Refused r : calls) {
            Check.due(name + ": " + r.name, r.call.applyAsLong(x), r.due);
            same(name + ", behind " + r.name, Shown.of(x), before);
        }
        later(name, x, twin, taped);
    }

    private static void same(String what, Shown now, Shown then) {
        String differs = now.differs(then);
        if (differs != null) Check.holds(what + ": " + differs, false);
    }

    /** The same calls to both: what was refused may not show behind any. */
    private static void later(String name, FlowTalk x, FlowTalk twin, int taped) {
        List<ToLongFunction<FlowTalk>> then = new ArrayList<>();
        then.add(y -> y.feed(-1, 2, -3, 4, -5));
        then.add(y -> y.put(1, taped, false));
        then.add(y -> y.put(1, 0, false));
        for (int i = 0; i < 12; i++) then.add(y -> y.tick(1));
        then.add(y -> y.give(0, 5, 9L));
        then.add(y -> y.give(1, 6, 9L));
        for (int i = 0; i < 8; i++) then.add(y -> y.tick(7));
        then.add(y -> y.listen());
        then.add(y -> y.open());
        for (int i = 0; i < 8; i++) then.add(y -> y.tick(1));
        for (int i = 0; i < then.size(); i++) {
            Check.due(name + ", call " + i + " later", then.get(i).applyAsLong(x), then.get(i).applyAsLong(twin));
            same(name + ", behind call " + i + " later", Shown.of(x), Shown.of(twin));
        }
    }

    /** Promises 2 to 7. */
    private static void byEnd(FlowTalk x) {
        if (x.state(0) != Wire.CLOSED) add("open", STATE, y -> y.open());
        if (x.state(1) != Wire.CLOSED) add("listen", STATE, y -> y.listen());
        for (int end : new int[] {-1, 2, LOW, HIGH}) {
            add("close of no end", UNKNOWN, y -> y.close(end));
            add("give of no end", UNKNOWN, y -> y.give(end, 4, 5L));
            add("want of no end", UNKNOWN, y -> y.want(end, 3, true, 1, 0));
        }
        for (int end = 0; end < 2; end++) {
            int e = end, state = x.state(end);
            boolean gives = state >= Wire.REQUESTED && state <= Wire.OPEN;
            if (!gives && state != Wire.LISTEN) add("close", STATE, y -> y.close(e));
            for (int size : new int[] {-1, 41, LOW, HIGH}) add("give of " + size, OUTSIDE, y -> y.give(e, size, 5L));
            if (!gives) add("give", STATE, y -> y.give(e, 40, 5L));
            else if (x.count(end, 5) == 20) add("give", ROOM, y -> y.give(e, 0, 5L));
            wants(e, state);
        }
        for (int n : new int[] {0, 51, -1, LOW, HIGH}) add("tick " + n, OUTSIDE, y -> y.tick(n));
    }

    private static void wants(int e, int state) {
        for (int f : new int[] {0, 5, LOW, HIGH}) add("want of no feature", UNKNOWN, y -> y.want(e, f, true, 1, 1));
        for (int n : new int[] {0, 4, LOW, HIGH}) add("want of " + n, OUTSIDE, y -> y.want(e, 4, true, n, 0x0201));
        int[][] lists = {{1, 1, 15}, {1, 2, 0x2121}, {2, 1, 0}, {2, 1, 21}, {3, 1, 2}, {3, 2, 0x0101}, {4, 1, 0}, {4, 1, 3},
            {4, 3, 0x010201}};
        for (int[] l : lists) add("want of a list not as told", OUTSIDE, y -> y.want(e, l[0], true, l[1], l[2]));
        add("want of the other's WINDOW", OUTSIDE, y -> y.want(e, 1, false, 1, 50));
        add("want of the other's RATIO", OUTSIDE, y -> y.want(e, 2, false, 1, 5));
        if (state != Wire.CLOSED && state != Wire.WAIT) return;
        add("want", STATE, y -> y.want(e, 3, true, 1, 0));
    }

    /** Promises 8 to 11, 15 and 16. */
    private static void byWay(FlowTalk x) {
        int way = x.way();
        for (int i : new int[] {-1, way, 60, LOW, HIGH}) {
            add("lose of no packet", UNKNOWN, y -> y.lose(i));
            add("hold of no packet", UNKNOWN, y -> y.hold(i, 1));
            add("repeat of no packet", UNKNOWN, y -> y.repeat(i, 1));
            add("alter of no packet", UNKNOWN, y -> y.alter(i, 0, 1));
            add("packet of none", UNKNOWN, y -> y.packet(i, 0));
            add("octet of no packet", UNKNOWN, y -> y.octet(i, 0));
        }
        if (way == 0) return;
        int last = way - 1, size = x.packet(last, 2);
        for (int n : new int[] {-1, 51, LOW, HIGH}) {
            add("hold by " + n, OUTSIDE, y -> y.hold(last, n));
            add("repeat by " + n, OUTSIDE, y -> y.repeat(last, n));
        }
        if (way == 60) add("repeat", ROOM, y -> y.repeat(last, 0));
        for (int k : new int[] {-1, size, 220, LOW, HIGH}) {
            add("alter of no byte", UNKNOWN, y -> y.alter(last, k, 1));
            add("octet of no byte", UNKNOWN, y -> y.octet(last, k));
        }
        for (int what : new int[] {-1, 3, LOW, HIGH}) add("packet " + what, OUTSIDE, y -> y.packet(last, what));
    }

    /** Promises 12 and 13. */
    private static void byTape(FlowTalk x, int taped) {
        if (taped > 200) add("feed", ROOM, y -> y.feed(9, 9, 9, 9, 9));
        for (int end : new int[] {-1, 2, LOW, HIGH}) add("put to no end", UNKNOWN, y -> y.put(end, 0, true));
        for (int n : new int[] {-1, taped + 1, 221, LOW, HIGH}) add("put of " + n, OUTSIDE, y -> y.put(1, n, true));
        if (x.way() == 60) add("put", ROOM, y -> y.put(1, taped, true));
    }

    /** Promises 17 to 23. */
    private static void byAsking(FlowTalk x) {
        for (int end : new int[] {-1, 2, LOW, HIGH}) {
            add("state of no end", UNKNOWN, y -> y.state(end));
            add("number of no end", UNKNOWN, y -> y.number(end, 0));
            add("feature of no end", UNKNOWN, y -> y.feature(end, 1, true, 0));
            add("count of no end", UNKNOWN, y -> y.count(end, 0));
            add("got of no end", UNKNOWN, y -> y.got(end, 0, -1));
            add("seen of no end", UNKNOWN, y -> y.seen(end, 0L));
            add("sent of no end", UNKNOWN, y -> y.sent(end, 0L));
        }
        for (int end = 0; end < 2; end++) {
            int e = end, delivered = x.count(end, 11);
            for (int f : new int[] {0, 5, LOW, HIGH}) add("feature " + f, UNKNOWN, y -> y.feature(e, f, false, 0));
            for (int what : new int[] {-1, 6, LOW, HIGH}) {
                add("number " + what, OUTSIDE, y -> y.number(e, what));
                add("feature's " + what, OUTSIDE, y -> y.feature(e, 4, false, what));
            }
            for (int what : new int[] {-1, 16, LOW, HIGH}) add("count " + what, OUTSIDE, y -> y.count(e, what));
            for (int i : new int[] {-1, delivered, LOW, HIGH}) add("got of none", UNKNOWN, y -> y.got(e, i, -1));
            if (delivered == 0) continue;
            int size = x.got(end, 0, -1);
            for (int k : new int[] {-2, size, LOW, HIGH}) add("got of no byte", UNKNOWN, y -> y.got(e, 0, k));
        }
    }

    /** Each call that names more than one, with every two of them that can be at once. */
    private static void firstOfSeveral() {
        FlowTalk x = new FlowTalk(0L, 0L, 0);
        Check.due("give: UNKNOWN, OUTSIDE", x.give(2, 41, 0L), UNKNOWN);
        Check.due("give: UNKNOWN, STATE of either end", x.give(-1, 1, 0L), UNKNOWN);
        Check.due("give: OUTSIDE, STATE", x.give(0, 41, 0L), OUTSIDE);
        Check.due("want: UNKNOWN end, OUTSIDE", x.want(2, 1, true, 0, 0), UNKNOWN);
        Check.due("want: UNKNOWN feature, OUTSIDE", x.want(0, 0, false, 4, 0), UNKNOWN);
        Check.due("want: UNKNOWN feature, STATE", x.want(0, 5, true, 1, 1), UNKNOWN);
        Check.due("want: OUTSIDE n, STATE", x.want(0, 3, true, 4, 1), OUTSIDE);
        Check.due("want: OUTSIDE list, STATE", x.want(1, 3, true, 1, 2), OUTSIDE);
        Check.due("want: OUTSIDE, of the other, STATE", x.want(1, 2, false, 1, 2), OUTSIDE);
        Check.due("close: UNKNOWN, STATE of either end", x.close(2), UNKNOWN);
        Check.due("hold: UNKNOWN, OUTSIDE", x.hold(0, 51), UNKNOWN);
        Check.due("repeat: UNKNOWN, OUTSIDE", x.repeat(0, 51), UNKNOWN);
        Check.due("packet: UNKNOWN, OUTSIDE", x.packet(0, 3), UNKNOWN);
        Check.due("put: UNKNOWN, OUTSIDE", x.put(2, 1, true), UNKNOWN);
        Check.due("number: UNKNOWN, OUTSIDE", x.number(2, 6), UNKNOWN);
        Check.due("feature: UNKNOWN end, OUTSIDE", x.feature(2, 1, true, 6), UNKNOWN);
        Check.due("feature: UNKNOWN feature, OUTSIDE", x.feature(0, 5, true, 6), UNKNOWN);
        Check.due("count: UNKNOWN, OUTSIDE", x.count(2, 16), UNKNOWN);
        x.open();
        giveAll(x, 0);
        Check.due("give: UNKNOWN, ROOM", x.give(2, 0, 0L), UNKNOWN);
        Check.due("give: OUTSIDE, ROOM", x.give(0, -1, 0L), OUTSIDE);
        x.close(0);
        Check.due("give: STATE, ROOM", x.give(0, 0, 0L), STATE);
        for (int i = x.way(); i < 60; i++) x.put(0, 0, false);
        Check.due("repeat: UNKNOWN, ROOM", x.repeat(60, 0), UNKNOWN);
        Check.due("repeat: OUTSIDE, ROOM", x.repeat(0, 51), OUTSIDE);
        Check.due("repeat: UNKNOWN, OUTSIDE, ROOM", x.repeat(60, 51), UNKNOWN);
        Check.due("put: UNKNOWN, ROOM", x.put(2, 0, true), UNKNOWN);
        Check.due("put: OUTSIDE, ROOM", x.put(0, 1, true), OUTSIDE);
        Check.due("put: UNKNOWN, OUTSIDE, ROOM", x.put(2, 1, true), UNKNOWN);
    }
}
