import java.util.Arrays;

/** Options and features: parts 1 and 2, and what of part 3 writes them. */
public final class OptionTest {
    public static void main(String[] args) {
        wrongOnes();
        rightOnes();
        changeLeft();
        changeRight();
        changesThatAreNotTaken();
        latest();
        confirms();
        refused();
        twelveConfirms();
        changesInPackets();
        whenChangesAreDue();
        roomForVector();
        vectorsOff();
        duringHandshake();
        Check.finish();
    }

    /** End 1, OPEN, gets an ACK with these options. */
    private static FlowTalk heard(int... options) {
        FlowTalk x = Wire.opened();
        hear(x, 1, options);
        return x;
    }

    private static void hear(FlowTalk x, int end, int... options) {
        Wire.post(x, end, Wire.packet(Wire.ACK, x.number(end, 2) + 1, x.number(end, 0) - 1, options));
        x.tick(1);
    }

    private static void sees(String what, FlowTalk x, int i, int... options) {
        int[] got = Wire.options(Wire.bytes(x, i));
        Check.holds(what + ": options are " + Arrays.toString(got) + ", due " + Arrays.toString(options),
            Arrays.equals(got, options));
    }

    private static void wrongOnes() {
        int[][] all = {{2}, {99}, {2, 0}, {2, 1}, {99, 0}, {99, 1}, {2, 3, 1}, {2, 7, 3, 1, 0, 1, 0}, {4, 9, 3, 1}, {3, 2},
            {5, 8, 3, 1, 1, 0, 1, 0}, {6, 2}, {6, 3}, {6, 3, 64}, {6, 3, 128}, {6, 4, 0, 0xBF}, {99, 4, 0}, {1}, {1, 1},
            {1, 1, 6, 3, 0}, {0, 1}, {1, 7, 2}, {1, 99, 3, 0}, {6, 3, 0, 1}, {1, 0, 1}};
        for (int[] o : all) {
            FlowTalk x = heard(o);
            Check.due("WRONG " + Arrays.toString(o) + ": CLOSED", x.state(1), Wire.CLOSED);
            Check.due("WRONG: a RESET", x.octet(0, 0), Wire.RESET);
            Check.due("WRONG: CODE 3", x.octet(0, 16), 3);
            Check.due("WRONG: CODE 3 is counted", x.count(1, 14), 3);
            Check.due("WRONG: it is GOT", x.number(1, 2), 103);
        }
        int[] rows = new int[43];
        rows[0] = 6;
        rows[1] = 43;
        Check.due("WRONG: 41 rows", heard(rows).state(1), Wire.CLOSED);
        FlowTalk x = heard(2, 4, 1, 50, 2, 4, 2, 7, 9);
        Check.due("WRONG: the last one alone", x.state(1), Wire.CLOSED);
        Check.due("those on the left are heard", x.feature(1, 1, false, 0), 50);
        Check.due("those on the left are heard", x.feature(1, 2, false, 0), 7);
    }

    private static void rightOnes() {
        int[] rows = new int[42];
        rows[0] = 6;
        rows[1] = 42;
        int[][] all = {{}, {0}, {0, 0, 0}, {99, 2}, {99, 5, 1, 2, 3}, {1, 6, 3, 0}, {1, 2, 4, 1, 30}, {1, 0}, {6, 3, 63}, {6, 3, 255},
            {3, 3, 200}, {5, 7, 200, 1, 2, 3, 4}, {1, 3, 3, 9}, rows};
        for (int[] o : all) Check.due("right " + Arrays.toString(o), heard(o).state(1), Wire.OPEN);
    }

    private static void changeLeft() {
        FlowTalk x = heard(2, 4, 1, 16, 2, 4, 2, 20);
        Check.due("CHANGE L of WINDOW", x.feature(1, 1, false, 0), 16);
        Check.due("CHANGE L of RATIO", x.feature(1, 2, false, 0), 20);
        Check.due("the own ones stay", x.feature(1, 1, true, 0), 100);
        Check.due("the LIST stays", x.feature(1, 1, false, 3), 100);
        sees("CONFIRM R", x, 0, 5, 4, 1, 16, 5, 4, 2, 20, 6, 3, 3);
        // end 1's list 1, 0 leads
        x = heard(2, 5, 3, 0, 1);
        Check.due("CHANGE L of VECTORS", x.feature(1, 3, false, 0), 1);
        sees("CONFIRM R with a list", x, 0, 5, 6, 3, 1, 1, 0, 6, 3, 3);
        x = heard(2, 4, 3, 0, 2, 4, 4, 2);
        Check.due("CHANGE L of VECTORS, one value", x.feature(1, 3, false, 0), 0);
        Check.due("CHANGE L of WAY, one value", x.feature(1, 4, false, 0), 2);
        // end 1's list leads at end 0 as well
        x = Wire.opened();
        hear(x, 0, 2, 5, 4, 2, 1);
        Check.due("CHANGE L to end 0", x.feature(0, 4, false, 0), 2);
    }

    private static void changeRight() {
        FlowTalk x = heard(4, 4, 3, 0);
        Check.due("CHANGE R of VECTORS", x.feature(1, 3, true, 0), 0);
        sees("CONFIRM L, and no VECTOR", x, 0, 3, 6, 3, 0, 1, 0);
        x = heard(4, 5, 4, 2, 1);
        Check.due("CHANGE R of WAY: end 1's list leads", x.feature(1, 4, true, 0), 1);
        x = Wire.opened();
        x.want(1, 4, true, 1, 1);
        hear(x, 1, 4, 4, 4, 2);
        Check.due("no value in both lists", x.feature(1, 4, true, 0), 1);
    }

    private static void changesThatAreNotTaken() {
        int[][] all = {{2, 4, 0, 1}, {2, 4, 5, 1}, {2, 4, 255, 1}, {4, 4, 0, 1}, {4, 4, 9, 9}, {2, 4, 1, 15}, {2, 5, 1, 50, 50},
            {2, 4, 2, 0}, {2, 4, 2, 21}, {2, 4, 3, 2}, {2, 5, 3, 1, 1}, {2, 6, 3, 1, 0, 1}, {2, 4, 4, 0}, {2, 4, 4, 3}, {4, 4, 1, 50},
            {4, 4, 2, 3}, {4, 4, 4, 3}};
        for (int[] o : all) {
            FlowTalk x = heard(o);
            sees("CONFIRM with nothing for " + Arrays.toString(o), x, 0, o[0] == 2 ? 5 : 3, 3, o[2], 6, 3, 3);
            for (int f = 1; f <= 4; f++) {
                Check.due("the value stays", x.feature(1, f, false, 0), new int[] {100, 2, 1, 1}[f - 1]);
                Check.due("the own value stays", x.feature(1, f, true, 0), new int[] {100, 2, 1, 1}[f - 1]);
            }
        }
    }

    private static void latest() {
        FlowTalk x = Wire.opened();
        Wire.post(x, 1, Wire.packet(Wire.ACK, 110, 201, new int[] {2, 4, 1, 60, 4, 4, 3, 7}));
        Wire.post(x, 1, Wire.packet(Wire.ACK, 109, 201, new int[] {2, 4, 1, 70, 2, 4, 2, 9, 2, 4, 7, 1, 4, 4, 3, 0}));
        x.tick(1);
        Check.due("BEFORE LATEST is passed", x.feature(1, 1, false, 0), 60);
        Check.due("each feature has its LATEST", x.feature(1, 2, false, 0), 9);
        Check.due("one that was not taken is LATEST too", x.feature(1, 3, true, 0), 1);
        sees("no CONFIRM for what is passed, but for no FEATURE", x, 0, 5, 4, 1, 60, 3, 3, 3, 5, 4, 2, 9, 5, 3, 7, 6, 5, 1, 197, 2);
        x = heard(2, 4, 1, 60, 2, 4, 1, 61);
        Check.due("twice in one packet", x.feature(1, 1, false, 0), 61);
    }

    private static FlowTalk wanting() {
        FlowTalk x = Wire.opened();
        x.want(0, 1, true, 1, 50);
        x.want(0, 3, true, 1, 0);
        x.want(0, 4, false, 2, 0x102);
        x.tick(1);
        Wire.silence(x);
        return x;
    }

    private static void confirms() {
        FlowTalk x = wanting();
        hear(x, 0, 5, 4, 1, 51, 5, 4, 2, 2, 3, 4, 3, 1, 5, 3, 8);
        Check.due("CONFIRMS that are passed", x.count(0, 12), 3);
        Check.due("in OPEN still", x.state(0), Wire.OPEN);
        hear(x, 0, 5, 4, 1, 50);
        Check.due("CONFIRM R of WINDOW", x.feature(0, 1, true, 0), 50);
        Check.due("CHANGING no more", x.feature(0, 1, true, 1), 0);
        hear(x, 0, 5, 5, 3, 0, 0);
        Check.due("CONFIRM R of VECTORS", x.feature(0, 3, true, 0), 0);
        hear(x, 0, 3, 6, 4, 1, 1, 2);
        Check.due("CONFIRM L of WAY", x.feature(0, 4, false, 0), 1);
        Check.due("all are confirmed", x.count(0, 12), 0);
        x = wanting();
        hear(x, 0, 5, 3, 3, 3, 3, 4, 5, 3, 1);
        Check.due("CONFIRMS with nothing", x.count(0, 12), 0);
        Check.due("the VALUE stays", x.feature(0, 3, true, 0), 1);
        Check.due("the LIST stays as wanted", x.feature(0, 3, true, 2), 1);
        x = wanting();
        hear(x, 0, 5, 5, 1, 50, 99);
        Check.due("of WINDOW a LIST is not asked", x.feature(0, 1, true, 0), 50);
        x = wanting();
        hear(x, 0, 5, 5, 3, 1, 1);
        Check.due("no value in both: the one that there is", x.feature(0, 3, true, 0), 1);
        Check.due("and it is confirmed", x.feature(0, 3, true, 1), 0);
    }

    private static void refused() {
        int[][] all = {{5, 5, 3, 1, 0}, {5, 4, 3, 0}, {5, 5, 3, 0, 2}, {5, 6, 3, 0, 0, 0}, {5, 5, 3, 7, 0}, {3, 5, 4, 1, 2},
            {3, 6, 4, 2, 1, 2}, {5, 5, 3, 0, 1}};
        for (int[] o : all) {
            FlowTalk x = wanting();
            hear(x, 0, o);
            Check.due("REFUSED " + Arrays.toString(o), x.state(0), Wire.CLOSED);
            Check.due("REFUSED: a RESET with CODE 4", x.count(0, 14), 4);
            Check.due("REFUSED: a RESET", x.octet(0, 0) * 100 + x.octet(0, 16), 704);
        }
    }

    private static void twelveConfirms() {
        FlowTalk x = Wire.opened();
        int[] many = new int[15 * 4];
        for (int i = 0; i < 15; i++) {
            many[4 * i] = 2;
            many[4 * i + 1] = 4;
            many[4 * i + 2] = 100 + i;
        }
        hear(x, 1, many);
        int[] b = Wire.bytes(x, 0);
        Check.due("an ACK with 12 CONFIRMS", b[1], 12 * 3 + 3);
        Check.due("in their order", b[16 + 2], 100);
        Check.due("in their order", b[16 + 33 + 2], 111);
        Check.due("DUE no more", x.count(1, 13), 0);
        x = new FlowTalk(100L, 200L, 0);
        x.listen();
        Wire.post(x, 1, Wire.packet(Wire.REQUEST, 100, 0, many));
        x.tick(1);
        Wire.silence(x);
        Wire.post(x, 1, Wire.packet(Wire.CLOSE, 101, 200, many));
        x.tick(1);
        Check.due("12 at most are kept, and a RESET has none", x.count(1, 13), 12);
        Check.due("a RESET has no options", x.octet(0, 1), 0);
    }

    private static void changesInPackets() {
        FlowTalk x = Wire.opened();
        x.want(0, 4, false, 1, 1);
        x.want(0, 3, false, 2, 0x100);
        x.want(0, 4, true, 2, 0x102);
        x.want(0, 2, true, 1, 3);
        x.want(0, 1, true, 1, 40);
        x.tick(1);
        sees("own ones first, then by feature", x, 0, 2, 4, 1, 40, 2, 4, 2, 3, 2, 5, 4, 2, 1, 4, 5, 3, 0, 1, 4, 4, 4, 1, 6, 3, 1);
        Check.due("CHANGES alone are an ACK", x.octet(0, 0), Wire.ACK);
        x.close(0);
        sees("in a CLOSE as well, without VECTOR", x, 1, 2, 4, 1, 40, 2, 4, 2, 3, 2, 5, 4, 2, 1, 4, 5, 3, 0, 1, 4, 4, 4, 1);
        x = Wire.opened();
        x.want(0, 2, true, 1, 3);
        x.give(0, 1, 1L);
        x.give(0, 1, 1L);
        x.tick(1);
        Check.due("with data to send it is a BOTH", x.octet(0, 0), Wire.BOTH);
        Check.due("and then DATA", x.octet(1, 0), Wire.DATA);
        Check.due("and no ACK", x.way(), 2);
    }

    private static void whenChangesAreDue() {
        FlowTalk x = Wire.opened();
        x.want(0, 2, true, 1, 3);
        int[] packets = {1, 0, 0, 0, 1, 0, 0, 0, 1};
        for (int i = 0; i < packets.length; i++) {
            x.tick(1);
            Check.due("4 ticks behind, tick " + i, x.way(), packets[i]);
            Wire.silence(x);
        }
        x.tick(1);
        Wire.post(x, 0, Wire.packet(Wire.SYNC, 210, 102, Wire.NONE));
        x.tick(1);
        sees("an ANSWER has the CHANGE", x, 0, 2, 4, 2, 3);
        Wire.silence(x);
        x.tick(3);
        Check.due("and puts it off", x.way(), 0);
        x.tick(1);
        Check.due("by 4 ticks", x.way(), 1);
        Wire.silence(x);
        x.want(0, 1, true, 1, 30);
        x.tick(1);
        Check.due("another one is due at once", x.way(), 1);
        Wire.silence(x);
        x.give(0, 1, 1L);
        x.tick(1);
        Check.due("DATA may go meanwhile", x.octet(0, 0), Wire.DATA);
        Wire.silence(x);
        x.tick(2);
        Check.due("DATA does not put it off", x.way(), 0);
        x.tick(1);
        Check.due("DATA does not put it off", x.way(), 1);
    }

    private static void roomForVector() {
        // twelve CONFIRMS of 6 bytes, 28 bytes of CHANGES, 2 and a byte a row for the VECTOR
        FlowTalk x = crowded(12, 0, 7);
        Check.due("17 rows have room", x.octet(0, 1), 119);
        x = crowded(12, 0, 8);
        Check.due("19 rows have none: no VECTOR", x.octet(0, 1), 100);
        Check.due("all CONFIRMS went", x.count(1, 13), 0);
        x = crowded(11, 1, 9);
        Check.due("120 bytes have room", x.octet(0, 1), 120);
    }

    /** End 1 has all CHANGES, these CONFIRMS with a LIST and with nothing, and gaps to tell of. */
    private static FlowTalk crowded(int withList, int withNothing, int gaps) {
        FlowTalk x = Wire.opened();
        x.want(1, 1, true, 1, 30);
        x.want(1, 2, true, 1, 3);
        x.want(1, 3, true, 2, 1);
        x.want(1, 4, true, 2, 0x201);
        x.want(1, 3, false, 2, 1);
        x.want(1, 4, false, 2, 0x201);
        int[] options = {};
        for (int i = 0; i < withList; i++) options = Wire.join(options, new int[] {2, 5, 3, 1, 0});
        for (int i = 0; i < withNothing; i++) options = Wire.join(options, new int[] {2, 4, 9, 9});
        for (int i = 0; i < gaps; i++) Wire.post(x, 1, Wire.packet(Wire.DATA, 104 + 2 * i, 0, Wire.NONE));
        Wire.post(x, 1, Wire.packet(Wire.ACK, 104 + 2 * gaps, 201, options));
        x.tick(1);
        return x;
    }

    private static void vectorsOff() {
        FlowTalk x = Wire.opened();
        hear(x, 1, 4, 4, 3, 0);
        x.tick(1);
        Wire.silence(x);
        Wire.post(x, 1, Wire.packet(Wire.DATA, x.number(1, 2) + 1, 0, Wire.NONE));
        x.tick(3);
        Check.due("VECTORS 0: an ACK without options", x.octet(x.way() - 1, 1), 0);
    }

    private static void duringHandshake() {
        FlowTalk x = new FlowTalk(100L, 200L, 0);
        x.listen();
        x.want(1, 3, false, 2, 0x100);
        x.open();
        x.want(0, 1, true, 1, 77);
        Wire.silence(x);
        x.tick(4);
        sees("a REQUEST sent again has the CHANGE", x, 0, 2, 4, 1, 77);
        x.tick(1);
        Check.due("it is heard in LISTEN", x.feature(1, 1, false, 0), 77);
        sees("a RESPONSE has CONFIRM and CHANGE", x, 0, 5, 4, 1, 77, 4, 5, 3, 0, 1);
        x.tick(1);
        Check.due("it is heard in REQUEST", x.feature(0, 1, true, 0), 77);
        Check.due("and so is the CHANGE: end 1 leads", x.feature(0, 3, true, 0), 0);
        sees("an ACK has the CONFIRM, and no VECTOR now", x, 0, 3, 6, 3, 0, 1, 0);
        x.tick(1);
        Check.due("end 1 is CHANGING no more", x.count(1, 12), 0);
        x = new FlowTalk(100L, 200L, 0);
        x.listen();
        Wire.post(x, 1, Wire.packet(Wire.REQUEST, 100, 0, new int[] {1}));
        x.tick(1);
        Check.due("WRONG in LISTEN", x.state(1) * 1000 + x.octet(0, 0) * 100 + x.octet(0, 16), 703);
        Check.due("WRONG in LISTEN: no RESPONSE", x.way(), 1);
        x = new FlowTalk(100L, 200L, 0);
        x.open();
        Wire.silence(x);
        Wire.post(x, 0, Wire.packet(Wire.RESPONSE, 200, 100, new int[] {77, 1}));
        x.tick(1);
        Check.due("WRONG in REQUEST", x.state(0) * 1000 + x.octet(0, 0) * 100 + x.octet(0, 16), 703);
        Check.due("WRONG in REQUEST: no ACK", x.way(), 1);
    }
}
