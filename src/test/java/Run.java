/** One object and a run of calls on it, each call with the answer that is due. */
final class Run {
    static final int UNKNOWN = FlowTalk.UNKNOWN, OUTSIDE = FlowTalk.OUTSIDE, STATE = FlowTalk.STATE, ROOM = FlowTalk.ROOM;
    private static final int FEW = 40, MOST = 512;
    private final FlowTalk x;
    private final String name;
    private int calls;

    Run(String name, long first, long other, int delay) {
        this.name = name;
        x = new FlowTalk(first, other, delay);
    }

    /** Both OPEN at time 8, nothing on the way; what was sent until then, Wire.opened tells. */
    static Run opened(String name) {
        Run r = new Run(name, 100L, 200L, 0);
        r.listen(1);
        r.open(1);
        r.tick(8, 8);
        r.states(Wire.OPEN, Wire.OPEN);
        r.way(0);
        return r;
    }

    /** A run is of many calls, and of no more than an object is used for. */
    void end() {
        Check.holds(name + " has many calls: " + calls, calls >= FEW);
        Check.holds(name + " has 512 calls at most: " + calls, calls <= MOST);
    }

    private void is(String call, long answer, long due) {
        calls++;
        Check.due(name + ", call " + calls + ": " + call, answer, due);
    }

    void open(int due) {
        is("open()", x.open(), due);
    }

    void listen(int due) {
        is("listen()", x.listen(), due);
    }

    void close(int end, int due) {
        is("close(" + end + ")", x.close(end), due);
    }

    void give(int end, int size, long v, int due) {
        is("give(" + end + ", " + size + ", " + v + ")", x.give(end, size, v), due);
    }

    void want(int end, int feature, boolean own, int n, int values, int due) {
        is("want(" + end + ", " + feature + ", " + own + ", " + n + ", " + values + ")",
            x.want(end, feature, own, n, values), due);
    }

    void tick(int n, int due) {
        is("tick(" + n + ")", x.tick(n), due);
    }

    void lose(int i, int due) {
        is("lose(" + i + ")", x.lose(i), due);
    }

    void hold(int i, int n, int due) {
        is("hold(" + i + ", " + n + ")", x.hold(i, n), due);
    }

    void repeat(int i, int n, int due) {
        is("repeat(" + i + ", " + n + ")", x.repeat(i, n), due);
    }

    void alter(int i, int k, int mask, int due) {
        is("alter(" + i + ", " + k + ", " + mask + ")", x.alter(i, k, mask), due);
    }

    void feed(int a, int b, int c, int d, int e, int due) {
        is("feed(" + a + ", " + b + ", " + c + ", " + d + ", " + e + ")", x.feed(a, b, c, d, e), due);
    }

    void put(int end, int n, boolean right, int due) {
        is("put(" + end + ", " + n + ", " + right + ")", x.put(end, n, right), due);
    }

    /** Bytes are fed to an empty tape and put with a right CHECK. */
    void comes(int end, int due, int... bytes) {
        for (int i = 0; i < bytes.length; i += 20) {
            int[] w = new int[5];
            for (int k = 0; k < 20; k++) w[k / 4] = w[k / 4] << 8 | (i + k < bytes.length ? bytes[i + k] : 0);
            feed(w[0], w[1], w[2], w[3], w[4], i + 20);
        }
        put(end, bytes.length, true, due);
    }

    void way(int due) {
        is("way()", x.way(), due);
    }

    void packet(int i, int what, int due) {
        is("packet(" + i + ", " + what + ")", x.packet(i, what), due);
    }

    void octet(int i, int k, int due) {
        is("octet(" + i + ", " + k + ")", x.octet(i, k), due);
    }

    /** Of packet i: to which end, when, and its kind. */
    void flies(int i, int to, int when, int kind) {
        packet(i, 0, to);
        packet(i, 1, when);
        octet(i, 0, kind);
    }

    /** All of packet i, with the CHECK that is due. */
    void flies(int i, int to, int when, int[] bytes) {
        int[] all = bytes.clone();
        int check = Model.check(all);
        all[2] = check / 256;
        all[3] = check % 256;
        packet(i, 0, to);
        packet(i, 1, when);
        packet(i, 2, all.length);
        for (int k = 0; k < all.length; k++) octet(i, k, all[k]);
    }

    void state(int end, int due) {
        is("state(" + end + ")", x.state(end), due);
    }

    void states(int zero, int one) {
        state(0, zero);
        state(1, one);
    }

    void number(int end, int what, long due) {
        is("number(" + end + ", " + what + ")", x.number(end, what), due);
    }

    /** NEXT, FIRST, HIGH, MET, BASE, RECOVER. */
    void numbers(int end, long... due) {
        for (int what = 0; what < due.length; what++) number(end, what, due[what]);
    }

    void feature(int end, int feature, boolean own, int what, int due) {
        is("feature(" + end + ", " + feature + ", " + own + ", " + what + ")", x.feature(end, feature, own, what), due);
    }

    /** The VALUE, whether it is CHANGING, and the LIST. */
    void agreed(int end, int feature, boolean own, int value, int changing, int... list) {
        feature(end, feature, own, 0, value);
        feature(end, feature, own, 1, changing);
        feature(end, feature, own, 2, list.length);
        for (int i = 0; i < 3; i++) feature(end, feature, own, 3 + i, i < list.length ? list[i] : -1);
    }

    void allAsAtFirst(int end) {
        for (boolean own : new boolean[] {true, false}) {
            agreed(end, 1, own, 100, 0, 100);
            agreed(end, 2, own, 2, 0, 2);
            agreed(end, 3, own, 1, 0, 1, 0);
            agreed(end, 4, own, 1, 0, 1, 2);
        }
    }

    void count(int end, int what, int due) {
        is("count(" + end + ", " + what + ")", x.count(end, what), due);
    }

    /** From the first what on: as many as are due. */
    void counts(int end, int what, int... due) {
        for (int i = 0; i < due.length; i++) count(end, what + i, due[i]);
    }

    void got(int end, int i, int k, int due) {
        is("got(" + end + ", " + i + ", " + k + ")", x.got(end, i, k), due);
    }

    /** All of datagram i, and nothing behind it. */
    void delivered(int end, int i, int... bytes) {
        got(end, i, -1, bytes.length);
        for (int k = 0; k < bytes.length; k++) got(end, i, k, bytes[k]);
        got(end, i, bytes.length, UNKNOWN);
    }

    void seen(int end, long n, int due) {
        is("seen(" + end + ", " + n + ")", x.seen(end, n), due);
    }

    /** Numbers in a row, from n on. */
    void seenFrom(int end, long n, int... due) {
        for (int i = 0; i < due.length; i++) seen(end, n + i, due[i]);
    }

    void sent(int end, long n, int due) {
        is("sent(" + end + ", " + n + ")", x.sent(end, n), due);
    }

    /** Numbers in a row, from n on. */
    void sentFrom(int end, long n, int... due) {
        for (int i = 0; i < due.length; i++) sent(end, n + i, due[i]);
    }
}
