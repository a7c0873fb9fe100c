import java.util.Arrays;

/** The edges of OPTIONS: how long each may be, what stands behind MUST, and how many there is room for. */
public final class OptionEdgesTest {
    public static void main(String[] args) {
        lengths();
        beyondAllOptions();
        contents();
        vectorStates();
        knownOnes();
        must();
        fromTheLeft();
        whereTheyAreHeard();
        confirmsThatAreKept();
        whereTheyAreSent();
        roomForVector();
        Check.finish();
    }

    private static int[] option(int number, int length) {
        int[] o = new int[Math.max(2, length)];
        o[0] = number;
        o[1] = length;
        return o;
    }

    private static FlowTalk heard(int end, int... options) {
        FlowTalk x = Wire.opened();
        Wire.post(x, end, Wire.packet(Wire.ACK, x.number(end, 2) + 1, x.number(end, 0) - 1, options));
        x.tick(1);
        return x;
    }

    /** Either end takes them, or sends a RESET with CODE 3 and is CLOSED. */
    private static void wrong(String what, boolean wrong, int... options) {
        for (int end = 0; end < 2; end++) {
            FlowTalk x = heard(end, options);
            String name = what + " " + Arrays.toString(options) + " to end " + end;
            Check.due(name + ": state", x.state(end), wrong ? Wire.CLOSED : Wire.OPEN);
            Check.due(name + ": CODE sent", x.count(end, 14), wrong ? 3 : -1);
            if (wrong) Check.due(name + ": one RESET", x.way() * 1000 + x.octet(0, 0) * 100 + x.octet(0, 16), 1703);
        }
    }

    /** "An option is WRONG if it has less than 2 bytes". */
    private static void lengths() {
        for (int number : new int[] {2, 3, 4, 5, 6, 7, 8, 99, 255}) {
            wrong("0 bytes", true, number, 0);
            wrong("1 byte", true, number, 1);
            wrong("0 bytes, others behind", true, number, 0, 0, 0, 0);
            wrong("1 byte, others behind", true, number, 1, 0, 0, 0);
            wrong("no length", true, number);
            if (number > 6) wrong("2 bytes", false, number, 2);
        }
    }

    /** "or goes beyond all options". */
    private static void beyondAllOptions() {
        int[][] whole = {{2, 4, 1, 50}, {3, 3, 1}, {4, 4, 3, 1}, {5, 4, 1, 100}, {6, 3, 0}, {77, 5, 1, 2, 3}, {77, 2}};
        for (int[] o : whole) {
            wrong("to the end", false, o);
            wrong("one byte beyond", true, Arrays.copyOf(o, o.length - 1));
            wrong("one byte less", false, Arrays.copyOf(o, o.length + 1));
        }
        wrong("120 bytes in one", false, option(77, 120));
        int[] beyond = option(77, 120);
        beyond[1] = 121;
        wrong("121 bytes in one", true, beyond);
        int[] last = new int[120];
        wrong("120 times nothing", false, last);
        last[119] = 1;
        wrong("MUST is the last of 120", true, last);
        last[119] = 77;
        wrong("a number is the last of 120", true, last);
        last[118] = 77;
        last[119] = 2;
        wrong("two bytes are the last of 120", false, last);
        last[119] = 3;
        wrong("three bytes, of which 120 has two", true, last);
        // the bytes behind OPTIONS are DATA, though they would make the option whole
        FlowTalk x = Wire.opened();
        Wire.post(x, 1, Wire.packet(Wire.BOTH, 103, 201, new int[] {2, 4, 1}, 50));
        x.tick(1);
        Check.due("into DATA: WRONG", x.count(1, 14), 3);
    }

    /** "2 CHANGE L, 4 CHANGE R: a FEATURE and 1 to 3 bytes", "3 CONFIRM L, 5 CONFIRM R: a FEATURE, then nothing, or ..". */
    private static void contents() {
        for (int length = 2; length <= 9; length++) {
            for (int number = 2; number <= 5; number++) {
                boolean change = number % 2 == 0;
                boolean right = change ? length >= 4 && length <= 6 : length >= 3 && length <= 7;
                int[] o = option(number, length);
                // no such FEATURE: nothing but the length can be WRONG
                if (length > 2) o[2] = 200;
                wrong(change ? "CHANGE" : "CONFIRM", !right, o);
            }
        }
        for (int rows : new int[] {0, 1, 2, 39, 40, 41, 42, 117, 118}) {
            wrong("VECTOR of " + rows, rows < 1 || rows > 40, option(6, 2 + rows));
        }
    }

    /** "each a STATE (0 got, 3 not got) times 64 and how many numbers in a row, less 1". */
    private static void vectorStates() {
        for (int row = 0; row < 256; row++) wrong("row", row > 63 && row < 192, 6, 3, row);
        int[] rows = option(6, 42);
        rows[41] = 64;
        wrong("the last of 40 rows", true, rows);
        rows[41] = 255;
        wrong("the last of 40 rows", false, rows);
    }

    /** "Other numbers are not KNOWN"; "not KNOWN behind MUST". */
    private static void knownOnes() {
        for (int number = 7; number < 256; number++) {
            wrong("not KNOWN", false, number, 3, 0);
            wrong("not KNOWN behind MUST", true, 1, number, 3, 0);
        }
        int[][] known = {{2, 4, 200, 1}, {3, 3, 200}, {4, 4, 200, 1}, {5, 3, 200}, {6, 3, 0}};
        for (int[] o : known) {
            wrong("KNOWN behind MUST", false, Wire.join(new int[] {1}, o));
            wrong("MUST is for one option alone", false, Wire.join(new int[] {1}, o, new int[] {77, 2}));
        }
        wrong("not KNOWN before MUST", false, 77, 2, 1, 6, 3, 0);
    }

    /** "(or MUST behind MUST, or MUST as the last one)". */
    private static void must() {
        wrong("MUST alone", true, 1);
        wrong("MUST behind MUST", true, 1, 1);
        wrong("MUST behind MUST, and an option", true, 1, 1, 6, 3, 0);
        wrong("MUST as the last one", true, 6, 3, 0, 1);
        wrong("MUST as the last one, behind nothing", true, 0, 0, 1);
        wrong("two MUSTS, each with its option", false, 1, 6, 3, 0, 1, 6, 3, 0);
        wrong("nothing behind MUST", false, 1, 0);
        wrong("nothing behind MUST, then not KNOWN", false, 1, 0, 77, 2);
        wrong("a byte 1 inside an option is none", false, 77, 3, 1);
        wrong("a byte 1 inside an option is none", false, 77, 4, 1, 1);
    }

    /** "options are heard, from the left: WRONG .. all else is left". */
    private static void fromTheLeft() {
        for (int end = 0; end < 2; end++) {
            FlowTalk x = heard(end, 2, 4, 1, 50, 1, 1, 2, 4, 2, 9);
            Check.due("left of it", x.feature(end, 1, false, 0), 50);
            Check.due("right of it", x.feature(end, 2, false, 0), 2);
            Check.due("a CONFIRM stays DUE", x.count(end, 13), 1);
            x = heard(end, 1, 77, 2, 2, 4, 1, 50);
            Check.due("right of it", x.feature(end, 1, false, 0) * 10 + x.count(end, 13), 1000);
        }
        // neither data nor what is told to be got counts
        FlowTalk x = Wire.opened();
        x.give(1, 1, 1L);
        x.tick(1);
        Wire.silence(x);
        Wire.post(x, 1, Wire.packet(Wire.BOTH, 103, 202, new int[] {6, 3, 0, 2, 3, 1}, 8));
        x.tick(1);
        Check.due("all else is left: PIPE", x.count(1, 0), 1);
        Check.due("all else is left: DELIVERED", x.count(1, 11), 0);
        Check.due("but it is GOT", x.seen(1, 103), 1);
    }

    /** "Those of DATA are none"; OUT and AGAIN are counted, nothing else; a RESPONSE in PARTOPEN: an ACK is sent. */
    private static void whereTheyAreHeard() {
        int[] change = {2, 4, 1, 50};
        for (int kind = 0; kind < 10; kind++) {
            for (int end = 0; end < 2; end++) {
                if (kind == Wire.DATA) continue;
                FlowTalk x = Wire.opened();
                long number = x.number(end, 2) + 1, ack = x.number(end, 0) - 1;
                int[] p = kind == Wire.RESET ? Wire.reset(number, ack, 0, change) : Wire.packet(kind, number, ack, change);
                Wire.post(x, end, p);
                x.tick(1);
                boolean heard = kind > Wire.DATA && !(kind == Wire.ASK && end == 1);
                Check.due("kind " + kind + " to end " + end, x.feature(end, 1, false, 0), heard ? 50 : 100);
            }
        }
        FlowTalk x = Wire.opened();
        Wire.post(x, 1, Wire.packet(Wire.ACK, 102, 201, change));
        Wire.post(x, 1, Wire.packet(Wire.ACK, 99, 201, change));
        Wire.post(x, 1, Wire.packet(Wire.ACK, 103, 199, change));
        x.tick(1);
        Check.due("AGAIN and OUT are not heard", x.feature(1, 1, false, 0), 100);
        x = Wire.partOpen();
        Wire.post(x, 0, Wire.packet(Wire.RESPONSE, 201, 101, change));
        x.tick(1);
        Check.due("a RESPONSE in PARTOPEN is not heard", x.feature(0, 1, false, 0), 100);
        x = Wire.opened();
        Wire.post(x, 1, Wire.packet(Wire.DATA, 103, 0, Wire.NONE, change));
        x.tick(1);
        Check.due("DATA has none", x.feature(1, 1, false, 0), 100);
    }

    private static int[] changes(int n) {
        int[] o = {};
        for (int i = 0; i < n; i++) o = Wire.join(o, new int[] {2, 4, 100 + i, 1});
        return o;
    }

    /** "CONFIRMS that are DUE, in the order in which they came (12 at most are kept: others are not due)". */
    private static void confirmsThatAreKept() {
        for (int n : new int[] {0, 1, 11, 12, 13, 30}) {
            FlowTalk x = Wire.opened();
            // behind a CLOSE the end is CLOSED, and what is due stays so
            Wire.post(x, 1, Wire.packet(Wire.CLOSE, 103, 201, changes(n)));
            x.tick(1);
            Check.due(n + " CHANGES: DUE", x.count(1, 13), Math.min(12, n));
            int[] all = heardOptions(n);
            for (int i = 0; i < Math.min(12, n); i++) {
                Check.due("CONFIRM " + i, all[3 * i] * 10000 + all[3 * i + 1] * 1000 + all[3 * i + 2], 53100 + i);
            }
        }
        // with a VALUE, and with a LIST
        for (int n = 11; n <= 14; n++) {
            int[] values = {}, lists = {};
            for (int i = 0; i < n; i++) values = Wire.join(values, new int[] {2, 4, 1, 50 + i});
            for (int i = 0; i < n; i++) lists = Wire.join(lists, new int[] {4, 5, 3, i % 2, 1 - i % 2});
            Check.due(n + " with a VALUE", heard(1, values).octet(0, 1), 4 * Math.min(12, n) + 3);
            Check.due(n + " with a LIST", heard(1, lists).octet(0, 1), 6 * Math.min(12, n) + 3);
            Check.due("the VALUE is the last one's, though it is not confirmed", heard(1, values).feature(1, 1, false, 0), 49 + n);
        }
        // in two packets of one tick, and room again when they went
        FlowTalk x = Wire.opened();
        Wire.post(x, 1, Wire.packet(Wire.ACK, 103, 201, changes(7)));
        Wire.post(x, 1, Wire.packet(Wire.ACK, 104, 201, changes(7)));
        x.tick(1);
        Check.due("7 and 7 are 12", x.octet(0, 1), 12 * 3 + 3);
        Check.due("the 12th is the second packet's fifth", x.octet(0, 16 + 33 + 2), 104);
        Wire.silence(x);
        Wire.post(x, 1, Wire.packet(Wire.ACK, 105, 201, changes(12)));
        x.tick(1);
        Check.due("room for 12 again", x.octet(0, 1), 12 * 3 + 3);
    }

    private static int[] heardOptions(int n) {
        FlowTalk x = heard(1, changes(n));
        int[] o = n == 0 ? new int[3] : Wire.options(Wire.bytes(x, 0));
        Check.due(n + " CHANGES: bytes of OPTIONS", o.length, 3 * Math.min(12, n) + 3);
        Check.due(n + " CHANGES: DUE no more", x.count(1, 13), 0);
        return o;
    }

    /** "A packet that an end SENDS has, where OPTIONS may be (not in DATA, RESET)"; a VECTOR "in ACK and BOTH". */
    private static void whereTheyAreSent() {
        FlowTalk x = Wire.opened();
        Wire.post(x, 1, Wire.packet(Wire.SYNC, 103, 201, changes(2)));
        x.tick(1);
        Check.due("an ANSWER has CONFIRMS, no VECTOR", x.octet(0, 0) * 100 + x.octet(0, 1), 906);
        Check.due("and no ACK is needed", x.way(), 1);
        x = Wire.opened();
        x.want(1, 1, true, 1, 30);
        Wire.post(x, 1, Wire.packet(Wire.DATA, 9000, 0, Wire.NONE));
        x.tick(1);
        Check.due("a SYNC has CHANGES, no VECTOR", x.octet(0, 0) * 100 + x.octet(0, 1), 804);
        x.close(1);
        Check.due("an ASK likewise", x.octet(1, 0) * 100 + x.octet(1, 1), 504);
        x = Wire.opened();
        x.want(0, 1, true, 1, 30);
        x.close(0);
        Check.due("a CLOSE likewise", x.octet(0, 0) * 100 + x.octet(0, 1), 604);
        x = Wire.opened();
        Wire.post(x, 1, Wire.packet(Wire.ACK, 103, 201, Wire.join(changes(2), new int[] {1, 1})));
        x.tick(1);
        Check.due("a RESET has none", x.octet(0, 0) * 100 + x.octet(0, 1), 700);
        Check.due("what was DUE stays", x.count(1, 13), 2);
        x = Wire.opened();
        x.want(0, 2, true, 1, 5);
        x.give(0, 3, 1L);
        x.give(0, 3, 1L);
        x.tick(1);
        Check.due("a BOTH has a CHANGE and a VECTOR", x.octet(0, 0) * 100 + x.octet(0, 1), 407);
        Check.due("DATA has none", x.octet(1, 0) * 100 + x.octet(1, 1), 200);
    }

    /** "(No more than there is room for: one that does not fit ends it; the others stay.)" */
    private static void roomForVector() {
        // 12 CONFIRMS of 6 bytes and 6 CHANGES of 28 bytes are 100; a VECTOR has 2 and one a row
        for (int rows = 14; rows <= 40; rows++) {
            FlowTalk x = crowded(rows);
            int bytes = 100 + 2 + rows;
            Check.due(rows + " rows: bytes of OPTIONS", x.octet(0, 1), bytes <= 120 ? bytes : 100);
            Check.due("CONFIRMS have room always", x.count(1, 13), 0);
            // a VECTOR that was left out is not told to be got
            Wire.silence(x);
            long high = x.number(1, 2), base = x.number(1, 4);
            Wire.post(x, 1, Wire.packet(Wire.ACK, high + 1, 202, Wire.NONE));
            x.tick(1);
            Check.due(rows + " rows: BASE", x.number(1, 4), bytes <= 120 ? high + 1 : base);
        }
    }

    /** End 1 sends an ACK with all CHANGES, twelve CONFIRMS with a LIST, and so many rows to tell. */
    private static FlowTalk crowded(int rows) {
        FlowTalk x = Wire.opened();
        x.want(1, 1, true, 1, 30);
        x.want(1, 2, true, 1, 3);
        for (int i = 0; i < 2; i++) {
            x.want(1, 3, i == 0, 2, 1);
            x.want(1, 4, i == 0, 2, 0x201);
        }
        int[] options = {};
        for (int i = 0; i < 12; i++) options = Wire.join(options, new int[] {2, 5, 3, 1, 0});
        // got 102 .. 100 is a row; each gap and each number behind it are one more; HIGH is by the ACK
        int gaps = (rows - 1) / 2;
        for (int i = 1; i < gaps; i++) Wire.post(x, 1, Wire.packet(Wire.ANSWER, 102 + 2 * i, 201, Wire.NONE));
        long high = 102 + 2 * gaps;
        if (rows % 2 == 0) {
            // 65 that are missing are two rows
            high += 64;
            if (gaps > 1) Wire.post(x, 1, Wire.packet(Wire.ANSWER, 102 + 2 * (gaps - 1), 201, Wire.NONE));
        }
        Wire.post(x, 1, Wire.packet(Wire.ACK, high, 201, options));
        x.tick(1);
        return x;
    }
}
