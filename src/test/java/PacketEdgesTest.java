import java.util.Arrays;

/** Part 1's edges but for options: numbers that go around, and how many bytes a packet may have. */
public final class PacketEdgesTest {
    private static final long ALL = 1L << 48;

    public static void main(String[] args) {
        lowestBits();
        aroundEverywhere();
        kinds();
        sizes();
        howManyOptions();
        howManyData();
        checkOfOddBytes();
        checkByFolds();
        checkOffByOne();
        Check.finish();
    }

    /** "SEQUENCE NUMBERS are 0 .. 2^48 - 1, around"; "the lowest 48 bits of these". */
    private static void lowestBits() {
        long[] given = {0, 1, ALL - 1, ALL, ALL + 1, -1, -ALL, Long.MAX_VALUE, Long.MIN_VALUE, ALL / 2 - 1, ALL / 2};
        long[] next = {0, 1, ALL - 1, 0, 1, ALL - 1, 0, ALL - 1, 0, ALL / 2 - 1, ALL / 2};
        for (int i = 0; i < given.length; i++) {
            FlowTalk x = new FlowTalk(given[i], given[i], 0);
            Check.due("NEXT of end 0", x.number(0, 0), next[i]);
            Check.due("NEXT of end 1", x.number(1, 0), next[i]);
            x.open();
            Check.due("its NUMBER", Wire.number(Wire.bytes(x, 0)), next[i]);
            Check.due("one more, around", x.number(0, 0), next[i] == ALL - 1 ? 0 : next[i] + 1);
        }
    }

    /** One run of calls from many first numbers: all that is shown moves with them, and nothing else does. */
    private static void aroundEverywhere() {
        long[] shown = run(1L << 30, 1L << 31);
        long[] edges = {0, ALL / 2, ALL};
        for (long edge : edges) {
            for (int before = 1; before <= 40; before += before < 12 ? 1 : 7) {
                same("end 0 from " + edge + " - " + before, run(edge - before, 1L << 31), shown);
                same("end 1 from " + edge + " - " + before, run(1L << 30, edge - before), shown);
                same("both from " + edge + " - " + before, run(edge - before, edge - before), shown);
            }
        }
    }

    private static void same(String what, long[] got, long[] due) {
        for (int i = 0; i < due.length; i++) {
            if (got.length != due.length || got[i] != due[i]) {
                Check.due(what + ", row " + i, got[i], due[i]);
                return;
            }
        }
    }

    /** Data both ways with losses, a repeat, a RECOVER, OUT and AGAIN; numbers are told less the first one. */
    private static long[] run(long first, long other) {
        long[] firsts = {Model.around(first), Model.around(other)};
        long[] shown = new long[4000];
        int at = 0;
        FlowTalk x = new FlowTalk(first, other, 1);
        x.listen();
        x.open();
        for (int t = 0; t < 40; t++) {
            if (t > 6 && t < 25) x.give(t % 3 == 0 ? 1 : 0, 2, t);
            if (t == 11 || t == 16) x.lose(0);
            if (t == 13) x.repeat(0, 2);
            if (t == 18) x.want(1, 1, true, 1, 20);
            if (t == 20) Wire.post(x, 1, Wire.packet(Wire.DATA, Model.around(first + 500), 0, Wire.NONE));
            if (t == 22) Wire.post(x, 1, Wire.packet(Wire.ACK, Model.around(first - 1), other, Wire.NONE));
            if (t == 23) Wire.post(x, 0, Wire.packet(Wire.ACK, x.number(0, 2) + 1, Model.around(first - 1), Wire.NONE));
            if (t == 30) x.close(1);
            x.tick(1);
            for (int end = 0; end < 2; end++) {
                shown[at++] = x.state(end);
                for (int what = 0; what < 5; what++) {
                    shown[at++] = Model.around(x.number(end, what) - firsts[what < 2 ? end : 1 - end]);
                    // before any packet these are 0, whatever numbers begin with
                    if (what >= 2 && t < 4) shown[at - 1] = x.number(end, what) == 0 ? 0 : 1;
                }
                long recover = x.number(end, 5);
                shown[at++] = recover == -1 ? -1 : Model.around(recover - firsts[end]);
                for (int what = 0; what < 16; what++) shown[at++] = x.count(end, what);
                shown[at++] = x.seen(end, firsts[1 - end] + t) * 10 + x.sent(end, firsts[end] + t);
                shown[at++] = x.seen(end, firsts[1 - end] - 1) * 10 + x.sent(end, firsts[end] - 1);
            }
        }
        return Arrays.copyOf(shown, at);
    }

    private static void isBad(String what, boolean bad, int... bytes) {
        FlowTalk x = Wire.opened();
        Wire.post(x, 1, bytes);
        x.tick(1);
        Check.due("BAD: " + what, x.count(1, 8), bad ? 1 : 0);
        Check.due("come, BAD or not: " + what, x.count(1, 7), 4);
        if (bad) Check.due("nothing else: " + what, x.way() * 1000 + x.number(1, 2), 102);
    }

    private static int[] of(int kind, int options, int data) {
        int[] o = new int[options];
        if (kind == Wire.RESET) return Wire.join(Wire.reset(103, 201, 0, o), new int[data]);
        return Wire.packet(kind, 103, 201, o, new int[data]);
    }

    /** "a KIND (0 REQUEST, .. 9 ANSWER)". */
    private static void kinds() {
        for (int kind = 0; kind < 256; kind++) isBad("kind " + kind, kind > 9, of(kind, 0, 0));
    }

    /** Of each kind the bytes that it must have, one less and one more. */
    private static void sizes() {
        int[] least = {10, 16, 10, 16, 16, 16, 16, 17, 16, 16};
        for (int kind = 0; kind < 10; kind++) {
            boolean data = kind == Wire.DATA || kind == Wire.BOTH;
            int[] p = of(kind, 0, 0);
            Check.due("bytes of kind " + kind, p.length, least[kind]);
            isBad("kind " + kind + ", one less", true, Arrays.copyOf(p, p.length - 1));
            isBad("kind " + kind, false, p);
            isBad("kind " + kind + ", one more", !data, Arrays.copyOf(p, p.length + 1));
        }
        for (int n = 0; n < 10; n++) isBad(n + " bytes", true, Arrays.copyOf(of(Wire.REQUEST, 0, 0), n));
    }

    /** "how many bytes of OPTIONS (0 .. 120; 0 of DATA)". */
    private static void howManyOptions() {
        for (int kind = 0; kind < 10; kind++) {
            boolean none = kind == Wire.DATA;
            isBad("kind " + kind + ", 1 byte of OPTIONS", none, of(kind, 1, 0));
            isBad("kind " + kind + ", 119 bytes of OPTIONS", none, of(kind, 119, 0));
            isBad("kind " + kind + ", 120 bytes of OPTIONS", none, of(kind, 120, 0));
            isBad("kind " + kind + ", 121 bytes of OPTIONS", true, of(kind, 121, 0));
            isBad("kind " + kind + ", 255 said, 120 there", true, said(of(kind, 120, 0), 255));
            isBad("kind " + kind + ", 5 said, 4 there", true, said(of(kind, 4, 0), 5));
            boolean data = kind == Wire.BOTH;
            isBad("kind " + kind + ", 3 said, 4 there", !data, said(of(kind, 4, 0), 3));
        }
    }

    private static int[] said(int[] p, int options) {
        p[1] = options;
        return p;
    }

    /** "of DATA and BOTH 0 .. 40 bytes DATA, of others none". */
    private static void howManyData() {
        for (int kind = 0; kind < 10; kind++) {
            boolean data = kind == Wire.DATA || kind == Wire.BOTH;
            for (int n : new int[] {0, 1, 39, 40, 41}) isBad("kind " + kind + ", DATA " + n, data ? n > 40 : n > 0, of(kind, 0, n));
            if (kind == Wire.DATA) continue;
            for (int n : new int[] {0, 1, 40, 41}) isBad("with OPTIONS " + n, data ? n > 40 : n > 0, of(kind, 120, n));
        }
        for (int n : new int[] {0, 1, 39, 40}) {
            FlowTalk x = Wire.opened();
            Wire.post(x, 1, of(Wire.BOTH, 7, n));
            x.tick(1);
            Check.due("DELIVERED are the bytes behind OPTIONS", x.got(1, 0, -1), n);
        }
    }

    private static int checkOf(int... bytes) {
        FlowTalk x = new FlowTalk(0L, 0L, 0);
        Wire.post(x, 0, bytes);
        return x.octet(0, 2) * 256 + x.octet(0, 3);
    }

    /** "by twos, highest first (a last one alone is followed by 0)", "with 0 for these two". */
    private static void checkOfOddBytes() {
        Check.due("nothing but zeros", checkOf(0, 0, 0, 0), 65535);
        Check.due("what stood there is not added", checkOf(0, 0, 77, 88), 65535);
        Check.due("highest first", checkOf(1, 2, 0, 0), 65535 - 0x0102);
        Check.due("a last one alone", checkOf(0, 0, 0, 0, 3), 65535 - 0x0300);
        Check.due("two more", checkOf(0, 0, 0, 0, 3, 4), 65535 - 0x0304);
    }

    /** "as long as the sum is above 65535, it becomes its lowest 16 bits and what is above them, added". */
    private static void checkByFolds() {
        Check.due("65534", checkOf(255, 254, 0, 0), 1);
        Check.due("65535", checkOf(255, 255, 0, 0), 0);
        Check.due("65536", checkOf(255, 255, 0, 0, 0, 1), 65534);
        Check.due("131070 folds to 65535", checkOf(255, 255, 0, 0, 255, 255), 0);
        Check.due("131071 folds twice", checkOf(255, 255, 0, 0, 255, 255, 0, 1), 65534);
        int[] most = new int[220];
        Arrays.fill(most, 255);
        Check.due("the greatest sum", checkOf(most), 0);
        most[219] = 254;
        Check.due("one less than that", checkOf(most), 1);
    }

    /** "or has the wrong CHECK": one more, one less, and 65535 where 0 is right. */
    private static void checkOffByOne() {
        for (int off : new int[] {1, 255, 0}) {
            FlowTalk x = Wire.opened();
            Wire.post(x, 1, of(Wire.DATA, 0, 3));
            int right = x.octet(0, 3);
            x.alter(0, 3, right ^ (right + off & 255));
            x.tick(1);
            Check.due("CHECK off by " + off, x.count(1, 8), off == 0 ? 0 : 1);
        }
        // 0x0200 + 0xFDFF is 65535, so CHECK is 0
        for (int wrong = 0; wrong < 2; wrong++) {
            FlowTalk x = new FlowTalk(0L, 0L, 0);
            Wire.post(x, 1, Wire.packet(Wire.DATA, 0xFDFF, 0, Wire.NONE));
            Check.due("CHECK 0", x.octet(0, 2) + x.octet(0, 3), 0);
            if (wrong == 1) {
                x.alter(0, 2, 255);
                x.alter(0, 3, 255);
            }
            x.tick(1);
            Check.due("65535 instead of 0 is wrong", x.count(1, 8), wrong);
        }
        for (int byteAt = 0; byteAt < 13; byteAt++) {
            for (int bit = 0; bit < 8; bit++) {
                FlowTalk x = Wire.opened();
                Wire.post(x, 1, of(Wire.DATA, 0, 3));
                x.alter(0, byteAt, 1 << bit);
                x.tick(1);
                Check.due("one bit of byte " + byteAt, x.count(1, 8), 1);
            }
        }
    }
}
