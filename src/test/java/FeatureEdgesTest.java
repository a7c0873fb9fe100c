import java.util.ArrayList;
import java.util.Arrays;
import java.util.List;

/** Part 2's edges: which VALUES and LISTS may be, how two are RECONCILED, what is LATEST, what is passed or REFUSED. */
public final class FeatureEdgesTest {
    private static final int[] AT_FIRST = {100, 2, 1, 1};
    private static final int[] LEAST = {16, 1, 0, 1}, MOST = {255, 20, 1, 2};

    public static void main(String[] args) {
        atFirst();
        valuesThatMayBe();
        listsByWant();
        listsByChange();
        noSuchFeature();
        windowAndRatio();
        reconciledByChange();
        reconciledByConfirm();
        confirmsThatArePassed();
        confirmsOfWindow();
        latest();
        latestAround();
        changing();
        whenAChangeIsDue();
        Check.finish();
    }

    private static void hear(FlowTalk x, int end, int... options) {
        Wire.post(x, end, Wire.packet(Wire.ACK, x.number(end, 2) + 1, x.number(end, 0) - 1, options));
        x.tick(1);
    }

    private static int[] firstOption(FlowTalk x, int from) {
        for (int i = 0; i < x.way(); i++) {
            if (x.packet(i, 0) == from) continue;
            int[] o = Wire.options(Wire.bytes(x, i));
            return o.length < 2 ? o : Arrays.copyOf(o, o[1]);
        }
        return Wire.NONE;
    }

    private static void confirmIs(String what, FlowTalk x, int from, int... due) {
        int[] got = firstOption(x, from);
        Check.holds(what + ": " + Arrays.toString(got) + ", due is " + Arrays.toString(due), Arrays.equals(got, due));
    }

    /** "at first the VALUE alone of 1, 2, of 3 the values 1, 0, of 4 the values 1, 2"; again so behind open and listen. */
    private static void atFirst() {
        FlowTalk x = Wire.opened();
        for (int end = 0; end < 2; end++) {
            hear(x, end, 2, 4, 1, 50, 2, 4, 2, 9, 4, 4, 3, 0, 2, 4, 4, 2);
            x.want(end, 1, true, 1, 70);
            x.want(end, 4, true, 1, 2);
            x.want(end, 3, false, 1, 0);
        }
        x.tick(1);
        Wire.silence(x);
        for (int end = 0; end < 2; end++) Wire.post(x, end, Wire.reset(x.number(end, 2) + 1, x.number(end, 0) - 1, 0));
        x.tick(1);
        x.tick(12);
        x.open();
        x.listen();
        int[][] fresh = {{100, 0, 1, 100, -1, -1}, {2, 0, 1, 2, -1, -1}, {1, 0, 2, 1, 0, -1}, {1, 0, 2, 1, 2, -1}};
        for (int i = 0; i < 96; i++) {
            int f = i % 4, what = i / 4 % 6;
            Check.due("feature " + (f + 1) + ", " + what, x.feature(i / 24 % 2, f + 1, i < 48, what), fresh[f][what]);
        }
    }

    /** "1 WINDOW (16 .. 255, at first 100), 2 RATIO (1 .. 20), 3 VECTORS (0, 1), 4 WAY (1, 2)": each byte. */
    private static void valuesThatMayBe() {
        for (int f = 1; f <= 4; f++) {
            FlowTalk x = new FlowTalk(0L, 0L, 0);
            x.open();
            for (int v = 0; v < 256; v++) {
                boolean may = v >= LEAST[f - 1] && v <= MOST[f - 1];
                Check.due("want " + f + ", " + v, x.want(0, f, true, 1, v), may ? 1 : FlowTalk.OUTSIDE);
                if (may) Check.due("its LIST", x.feature(0, f, true, 3), v);
            }
        }
        for (int f = 1; f <= 4; f++) {
            for (int v : new int[] {0, 1, 2, 3, 15, 16, 17, 19, 20, 21, 254, 255}) {
                FlowTalk x = Wire.opened();
                hear(x, 1, 2, 4, f, v);
                boolean may = v >= LEAST[f - 1] && v <= MOST[f - 1];
                Check.due("CHANGE L " + f + ", " + v, x.feature(1, f, false, 0), may ? v : AT_FIRST[f - 1]);
                if (!may) confirmIs("with nothing", x, 1, 5, 3, f);
                else if (f < 3) confirmIs("with the VALUE", x, 1, 5, 4, f, v);
                else confirmIs("with VALUE and LIST", x, 1, 5, 6, f, v, 1, f == 3 ? 0 : 2);
            }
        }
    }

    /** "LISTS are one or more VALUES that may be, each once: of 1, 2 just one"; n is 1 .. 3, the lowest byte the first. */
    private static void listsByWant() {
        FlowTalk x = new FlowTalk(0L, 0L, 0);
        x.listen();
        int[] values = {0, 1, 2, 3, 16, 20, 255};
        for (int f = 1; f <= 4; f++) {
            for (int n = -1; n <= 5; n++) {
                for (int i = 0; i < 343; i++) {
                    int[] list = {values[i % 7], values[i / 7 % 7], values[i / 49]};
                    for (int own = 0; own < 2; own++) want(x, f, own == 1, n, list);
                }
            }
        }
        x.want(1, 3, true, 2, 0xFFFF0001);
        Check.due("bytes behind n values are no matter", x.feature(1, 3, true, 3) * 10 + x.feature(1, 3, true, 4), 10);
        Check.due("three values, of which two are like", x.want(1, 4, true, 3, 0x010201), FlowTalk.OUTSIDE);
        Check.due("values may be negative as a number", x.want(1, 1, true, 1, 0xFFFFFFFF), x.count(1, 12));
        Check.due("255", x.feature(1, 1, true, 3), 255);
    }

    private static void want(FlowTalk x, int f, boolean own, int n, int[] list) {
        boolean right = n >= 1 && n <= 3 && (f > 2 || (own && n == 1));
        for (int i = 0; right && i < n; i++) {
            right = list[i] >= LEAST[f - 1] && list[i] <= MOST[f - 1];
            for (int k = 0; k < i; k++) right = right && list[k] != list[i];
        }
        int before = x.feature(1, f, own, 3);
        int answer = x.want(1, f, own, n, list[0] | list[1] << 8 | list[2] << 16);
        String what = "want " + f + " " + own + " " + n + " " + Arrays.toString(list);
        Check.due(what, answer, right ? x.count(1, 12) : FlowTalk.OUTSIDE);
        Check.due(what + ": its first value", x.feature(1, f, own, 3), right ? list[0] : before);
        if (!right) return;
        Check.due(what + ": how many", x.feature(1, f, own, 2), n);
        Check.due(what + ": its second value", x.feature(1, f, own, 4), n > 1 ? list[1] : -1);
        Check.due(what + ": none is third", x.feature(1, f, own, 5), -1);
        Check.due(what + ": VALUE stays", x.feature(1, f, own, 0), AT_FIRST[f - 1]);
    }

    /** "if there is no such FEATURE, or the LIST is not as told, or R of 1 or 2: a CONFIRM with nothing is DUE". */
    private static void listsByChange() {
        int[][] lists = {{50, 50}, {50, 60}, {50, 60, 70}, {15}, {2, 3}, {0}, {21}, {1, 1}, {0, 0}, {0, 1, 0}, {1, 0, 2}, {2, 2},
            {1, 2, 1}, {1, 2, 3}, {3, 1}, {0, 2}};
        for (int f = 1; f <= 4; f++) {
            for (int[] list : lists) {
                for (int letter : new int[] {2, 4}) {
                    if (right(f, list) && (f > 2 || letter == 2)) continue;
                    FlowTalk x = Wire.opened();
                    hear(x, 1, Wire.join(new int[] {letter, 3 + list.length, f}, list));
                    confirmIs("CHANGE " + letter + " of " + f + ", " + Arrays.toString(list), x, 1, letter == 2 ? 5 : 3, 3, f);
                    Check.due("VALUE stays", x.feature(1, f, letter == 4, 0), AT_FIRST[f - 1]);
                }
            }
        }
        for (int f = 1; f <= 2; f++) {
            FlowTalk x = Wire.opened();
            hear(x, 1, 4, 4, f, 17);
            confirmIs("CHANGE R of " + f, x, 1, 3, 3, f);
            Check.due("VALUE stays", x.feature(1, f, true, 0), AT_FIRST[f - 1]);
        }
    }

    private static boolean right(int f, int[] list) {
        if (f < 3 && list.length > 1) return false;
        for (int i = 0; i < list.length; i++) {
            if (list[i] < LEAST[f - 1] || list[i] > MOST[f - 1]) return false;
            for (int k = 0; k < i; k++) if (list[k] == list[i]) return false;
        }
        return true;
    }

    /** "(.. FEATURES that there are not are passed but for that CONFIRM: LATEST is not asked.)" */
    private static void noSuchFeature() {
        for (int f : new int[] {0, 5, 6, 255}) {
            for (int letter : new int[] {2, 4}) {
                FlowTalk x = Wire.opened();
                Wire.post(x, 1, Wire.packet(Wire.ACK, 105, 201, new int[] {letter, 4, f, 1}));
                Wire.post(x, 1, Wire.packet(Wire.ACK, 104, 201, new int[] {letter, 4, f, 1}));
                x.tick(1);
                int[] o = Wire.options(Wire.bytes(x, 0));
                int c = letter == 2 ? 5 : 3;
                Check.holds("a CONFIRM for each: " + Arrays.toString(o),
                    Arrays.equals(Arrays.copyOf(o, 6), new int[] {c, 3, f, c, 3, f}));
            }
            for (int letter : new int[] {3, 5}) {
                FlowTalk x = Wire.opened();
                hear(x, 1, letter, 5, f, 9, 9);
                Check.due("CONFIRM of none is passed", x.state(1) * 10 + x.way(), 50);
            }
        }
    }

    /** "Of 1, 2: the VALUE is that of the LIST; a CONFIRM with it is DUE": the own LIST is no matter, and stays. */
    private static void windowAndRatio() {
        for (int end = 0; end < 2; end++) {
            FlowTalk x = Wire.opened();
            hear(x, end, 2, 4, 1, 16, 2, 4, 2, 20);
            Check.due("VALUES", x.feature(end, 1, false, 0) * 100 + x.feature(end, 2, false, 0), 1620);
            Check.due("LISTS stay", x.feature(end, 1, false, 3) * 100 + x.feature(end, 2, false, 3), 10002);
            Check.due("its own stay", x.feature(end, 1, true, 0) * 100 + x.feature(end, 2, true, 0), 10002);
            confirmIs("the first CONFIRM", x, end, 5, 4, 1, 16);
        }
    }

    private static List<int[]> lists(int f) {
        int a = f == 3 ? 0 : 1, b = a + 1;
        return List.of(new int[] {a}, new int[] {b}, new int[] {a, b}, new int[] {b, a});
    }

    /** "the first one of end 1's that is in end 0's; if there is none, the VALUE that there is (of who reconciles) stays". */
    private static int reconciled(int[] ofOne, int[] ofZero, int otherwise) {
        for (int v : ofOne) {
            for (int w : ofZero) if (v == w) return v;
        }
        return otherwise;
    }

    private static int packed(int[] list) {
        return list.length == 1 ? list[0] : list[0] | list[1] << 8;
    }

    /** Each own LIST and each one that is told, at either end, L and R, from either VALUE. */
    private static void reconciledByChange() {
        for (int i = 0; i < 2 * 2 * 2 * 2; i++) {
            int end = i & 1, f = 3 + (i >> 1 & 1), value = (f == 3 ? 0 : 1) + (i >> 2 & 1);
            boolean own = i >> 3 == 1;
            for (int[] mine : lists(f)) {
                for (int[] told : lists(f)) {
                    FlowTalk x = Wire.opened();
                    hear(x, end, own ? 4 : 2, 4, f, value);
                    Check.due("VALUE before", x.feature(end, f, own, 0), value);
                    x.want(end, f, own, mine.length, packed(mine));
                    x.tick(1);
                    Wire.silence(x);
                    hear(x, end, Wire.join(new int[] {own ? 4 : 2, 3 + told.length, f}, told));
                    int due = end == 1 ? reconciled(mine, told, value) : reconciled(told, mine, value);
                    String what = "end " + end + ", " + f + ", " + Arrays.toString(mine) + " and " + Arrays.toString(told);
                    Check.due(what, x.feature(end, f, own, 0), due);
                    confirmIs(what, x, end, Wire.join(new int[] {own ? 3 : 5, 4 + mine.length, f, due}, mine));
                    Check.due(what + ": CHANGING still", x.feature(end, f, own, 1), 1);
                }
            }
        }
    }

    /** "if the LIST is not as told, or VALUE is not what the own LIST and that one, RECONCILED, are: it is REFUSED". */
    private static void reconciledByConfirm() {
        List<int[]> wrong = new ArrayList<>();
        wrong.add(Wire.NONE);
        wrong.add(new int[] {3});
        wrong.add(new int[] {1, 1});
        wrong.add(new int[] {1, 2, 1});
        wrong.add(new int[] {1, 0, 1});
        for (int i = 0; i < 2 * 2 * 2; i++) {
            int end = i & 1, f = 3 + (i >> 1 & 1);
            boolean own = i >> 2 == 1;
            List<int[]> tellable = new ArrayList<>(lists(f));
            tellable.addAll(wrong);
            for (int[] mine : lists(f)) {
                for (int[] told : tellable) {
                    for (int value = 0; value <= 3; value++) confirm(end, f, own, mine, told, value);
                }
            }
        }
    }

    private static void confirm(int end, int f, boolean own, int[] mine, int[] told, int value) {
        FlowTalk x = Wire.opened();
        x.want(end, f, own, mine.length, packed(mine));
        x.tick(1);
        Wire.silence(x);
        hear(x, end, Wire.join(new int[] {own ? 5 : 3, 4 + told.length, f, value}, told));
        int due = end == 1 ? reconciled(mine, told, 1) : reconciled(told, mine, 1);
        boolean taken = right(f, told) && told.length > 0 && value == due;
        String what = "end " + end + ", " + f + ", " + Arrays.toString(mine) + ": CONFIRM " + value + " " + Arrays.toString(told);
        Check.due(what, x.state(end), taken ? Wire.OPEN : Wire.CLOSED);
        Check.due(what + ": CHANGING", x.feature(end, f, own, 1), taken ? 0 : 1);
        Check.due(what + ": VALUE", x.feature(end, f, own, 0), taken ? value : 1);
        Check.due(what + ": CODE", x.count(end, 14), taken ? -1 : 4);
        if (!taken) Check.due(what + ": a RESET", x.octet(0, 0) * 100 + x.octet(0, 16), 704);
    }

    /** "passed, if there is no such FEATURE, or the end is not CHANGING it": even if it would be REFUSED. */
    private static void confirmsThatArePassed() {
        for (int end = 0; end < 2; end++) {
            for (int f = 1; f <= 4; f++) {
                for (int letter : new int[] {3, 5}) {
                    FlowTalk x = Wire.opened();
                    hear(x, end, letter, 4, f, 2, letter, 3, f, letter, 5, f, 9, 9);
                    Check.due("not CHANGING " + f, x.state(end) * 10 + x.way(), 50);
                    Check.due("VALUE stays", x.feature(end, f, letter == 5, 0), AT_FIRST[f - 1]);
                }
            }
            // CHANGING its own, a CONFIRM for the other's is passed, and the other way round
            for (int own = 0; own < 2; own++) {
                FlowTalk x = Wire.opened();
                x.want(end, 3, own == 1, 1, 0);
                hear(x, end, own == 1 ? 3 : 5, 3, 3);
                Check.due("of the other end", x.count(end, 12), 1);
                hear(x, end, own == 1 ? 5 : 3, 3, 3);
                Check.due("of the right end", x.count(end, 12), 0);
                Check.due("with nothing: VALUE stays", x.feature(end, 3, own == 1, 0), 1);
            }
        }
    }

    /** "Of 1, 2: passed, if the VALUE is not the own LIST's; else that is the VALUE, and it is CHANGING no more." */
    private static void confirmsOfWindow() {
        for (int end = 0; end < 2; end++) {
            for (int f = 1; f <= 2; f++) {
                for (int off = -1; off <= 1; off++) {
                    for (int list = 0; list <= 3; list++) {
                        FlowTalk x = Wire.opened();
                        x.want(end, f, true, 1, 18);
                        x.tick(1);
                        Wire.silence(x);
                        hear(x, end, Wire.join(new int[] {5, 4 + list, f, 18 + off}, new int[list]));
                        String what = "CONFIRM R of " + f + " with " + (18 + off) + " and a LIST of " + list;
                        Check.due(what, x.feature(end, f, true, 0), off == 0 ? 18 : AT_FIRST[f - 1]);
                        Check.due(what + ": CHANGING", x.feature(end, f, true, 1), off == 0 ? 0 : 1);
                        Check.due(what + ": OPEN", x.state(end), Wire.OPEN);
                    }
                }
            }
        }
    }

    /** "an option in a packet whose number is BEFORE that is passed (else it is heard, and LATEST is that)". */
    private static void latest() {
        for (int off = -2; off <= 2; off++) {
            if (off == 0) continue;
            FlowTalk x = Wire.opened();
            Wire.post(x, 1, Wire.packet(Wire.ACK, 110, 201, new int[] {2, 4, 1, 50}));
            Wire.post(x, 1, Wire.packet(Wire.ACK, 110 + off, 201, new int[] {2, 4, 1, 60}));
            x.tick(1);
            Check.due("CHANGE at LATEST + " + off, x.feature(1, 1, false, 0), off < 0 ? 50 : 60);
            Check.due("CONFIRMS for it", Wire.options(Wire.bytes(x, 0))[4] == 5 ? 2 : 1, off < 0 ? 1 : 2);
            x = Wire.opened();
            x.want(1, 3, true, 1, 0);
            Wire.post(x, 1, Wire.packet(Wire.ACK, 110, 201, new int[] {4, 4, 3, 1}));
            Wire.post(x, 1, Wire.packet(Wire.ACK, 110 + off, 201, new int[] {5, 3, 3}));
            x.tick(1);
            Check.due("CONFIRM at LATEST + " + off, x.count(1, 12), off < 0 ? 1 : 0);
            x = Wire.opened();
            Wire.post(x, 1, Wire.packet(Wire.ACK, 110, 201, new int[] {2, 4, 2, 5, 2, 4, 3, 0, 4, 4, 4, 2}));
            Wire.post(x, 1, Wire.packet(Wire.ACK, 110 + off, 201, new int[] {2, 4, 1, 60, 4, 4, 3, 0, 2, 4, 4, 2}));
            x.tick(1);
            Check.due("each feature of each end has its own", x.feature(1, 1, false, 0) * 100 + x.feature(1, 3, true, 0) * 10
                + x.feature(1, 4, false, 0), 6002);
        }
        FlowTalk x = Wire.opened();
        hear(x, 1, 2, 4, 1, 50, 2, 4, 1, 60, 2, 4, 1, 70);
        Check.due("the same number is heard", x.feature(1, 1, false, 0), 70);
        // the REFUSED and the WRONG lie BEFORE it: WRONG is WRONG, but what would be REFUSED is passed
        x = Wire.opened();
        x.want(1, 3, true, 1, 0);
        Wire.post(x, 1, Wire.packet(Wire.ACK, 110, 201, new int[] {4, 4, 3, 1}));
        Wire.post(x, 1, Wire.packet(Wire.ACK, 109, 201, new int[] {5, 5, 3, 7, 7}));
        x.tick(1);
        Check.due("BEFORE LATEST: not REFUSED", x.state(1), Wire.OPEN);
        Wire.post(x, 1, Wire.packet(Wire.ACK, 108, 201, new int[] {2, 3, 1}));
        x.tick(1);
        Check.due("BEFORE LATEST: WRONG all the same", x.state(1), Wire.CLOSED);
    }

    /** LATEST is by numbers around 2^48 - 1. */
    private static void latestAround() {
        FlowTalk x = new FlowTalk(-4L, 200L, 0);
        x.listen();
        x.open();
        x.tick(8);
        Check.due("HIGH is before the turn", x.number(1, 2), (1L << 48) - 2);
        Wire.post(x, 1, Wire.packet(Wire.ACK, 0, 201, new int[] {2, 4, 1, 50}));
        Wire.post(x, 1, Wire.packet(Wire.ACK, -1, 201, new int[] {2, 4, 1, 60}));
        x.tick(1);
        Check.due("2^48 - 1 is BEFORE 0", x.feature(1, 1, false, 0), 50);
        x = new FlowTalk(-4L, 200L, 0);
        x.listen();
        x.open();
        x.tick(8);
        Wire.post(x, 1, Wire.packet(Wire.ACK, -1, 201, new int[] {2, 4, 1, 60}));
        Wire.post(x, 1, Wire.packet(Wire.ACK, 0, 201, new int[] {2, 4, 1, 50}));
        x.tick(1);
        Check.due("0 is AFTER 2^48 - 1", x.feature(1, 1, false, 0), 50);
    }

    /** "how many it is CHANGING": 0 .. 6, a feature that is wanted twice is one. */
    private static void changing() {
        FlowTalk x = new FlowTalk(0L, 0L, 0);
        x.open();
        int[][] wants = {{1, 1, 20}, {2, 1, 2}, {3, 1, 1}, {4, 1, 1}, {3, 0, 1}, {4, 0, 1}};
        for (int i = 0; i < wants.length; i++) {
            for (int twice = 0; twice < 2; twice++) {
                Check.due("want", x.want(0, wants[i][0], wants[i][1] == 1, 1, wants[i][2]), i + 1);
                Check.due("count", x.count(0, 12), i + 1);
                Check.due("CHANGING", x.feature(0, wants[i][0], wants[i][1] == 1, 1), 1);
            }
        }
        Check.due("of end 1 none", x.count(1, 12), 0);
    }

    /** "(A CHANGE is due again 4 ticks behind the latest packet that could have options; at once, if there was none ..)" */
    private static void whenAChangeIsDue() {
        FlowTalk x = Wire.opened();
        x.tick(1);
        x.want(0, 2, true, 1, 3);
        int[] due = {1, 0, 0, 0, 1, 0, 0, 0, 1};
        for (int t = 0; t < due.length; t++) {
            x.tick(1);
            Check.due("tick " + t, x.way(), due[t]);
            Wire.silence(x);
        }
        // 3 ticks behind the latest one another packet that could have options goes: 4 ticks from there
        x.tick(2);
        Wire.post(x, 0, Wire.packet(Wire.SYNC, x.number(0, 2) + 1, x.number(0, 0) - 1, Wire.NONE));
        int[] behind = {1, 0, 0, 0, 1};
        for (int t = 0; t < behind.length; t++) {
            x.tick(1);
            Check.due("tick " + t + " behind an ANSWER", x.way(), behind[t]);
            Wire.silence(x);
        }
        // a packet that can't have options puts nothing off
        x.tick(2);
        x.give(0, 1, 1L);
        x.tick(1);
        Check.due("DATA, 3 ticks behind", x.octet(0, 0) * 100 + x.octet(0, 1), 200);
        Wire.silence(x);
        x.tick(1);
        Check.due("an ACK, 4 ticks behind", x.octet(0, 0), Wire.ACK);
        Wire.silence(x);
        // wanted once more it is due at once
        x.tick(1);
        x.want(0, 2, true, 1, 4);
        x.tick(1);
        Check.due("wanted again", x.way(), 1);
        Check.due("with the LIST of now", x.octet(0, 19), 4);
    }
}
