import java.util.Arrays;

/** Part 1: the bytes of packets, and which ones are BAD. */
public final class PacketTest {
    public static void main(String[] args) {
        handshakeBytes();
        dataBytes();
        badOnes();
        notBad();
        Check.finish();
    }

    private static void same(String what, int[] got, int... want) {
        Check.holds(what + " is " + Arrays.toString(got) + ", due is " + Arrays.toString(want), Arrays.equals(got, want));
    }

    private static void handshakeBytes() {
        FlowTalk x = new FlowTalk(0x010203040506L, 0xFFFFFFFFFFFFL, 0);
        x.listen();
        x.open();
        // 0x0000 + 0x0102 + 0x0304 + 0x0506 = 0x090C
        same("REQUEST", Wire.bytes(x, 0), 0, 0, 0xF6, 0xF3, 1, 2, 3, 4, 5, 6);
        x.tick(1);
        // 0x0100 + 3 * 0xFFFF + 0x090C folds to 0x0A0C
        same("RESPONSE", Wire.bytes(x, 0), 1, 0, 0xF5, 0xF3, 255, 255, 255, 255, 255, 255, 1, 2, 3, 4, 5, 6);
        x.tick(1);
        // options: a VECTOR of one row; 0x0303 + 0x090D + 3 * 0xFFFF + 0x0603 + 0 folds to 0x1213
        same("ACK", Wire.bytes(x, 0), 3, 3, 0xED, 0xEC, 1, 2, 3, 4, 5, 7, 255, 255, 255, 255, 255, 255, 6, 3, 0);
    }

    private static void dataBytes() {
        FlowTalk x = Wire.opened();
        x.give(0, 3, 0x332211L);
        x.give(1, 0, 0L);
        x.tick(1);
        // 0x0200 + 103 + 0x1123 + 0x3500
        same("DATA", Wire.bytes(x, 0), 2, 0, 0xB7, 0x75, 0, 0, 0, 0, 0, 103, 0x11, 0x23, 0x35);
        int[] empty = Wire.bytes(x, 1);
        Check.due("DATA of no bytes", empty.length, 10);
        x.give(1, 1, 77L);
        x.give(0, 1, 5L);
        x.give(0, 1, 6L);
        x.tick(1);
        x.give(1, 1, 78L);
        x.tick(1);
        int[] both = Wire.bytes(x, x.way() - 1);
        Check.due("BOTH", both[0], Wire.BOTH);
        Check.due("BOTH's ACK", Wire.ack(both), x.number(1, 2));
        Check.due("BOTH's data", both[both.length - 1], 78);
        x = Wire.opened();
        Wire.post(x, 1, Wire.packet(Wire.SYNC, 104, 201, Wire.NONE));
        x.tick(1);
        same("ANSWER's kind and ACK", new int[] {x.octet(0, 0), x.octet(0, 15)}, Wire.ANSWER, 104);
        x = new FlowTalk(0L, 0L, 0);
        x.open();
        x.tick(1);
        // 0x0700 + 0 + 0 + CODE 1 as 0x0100
        same("RESET", Wire.bytes(x, 0), 7, 0, 0xF7, 0xFF, 0, 0, 0, 0, 0, 0, 0, 0, 0, 0, 0, 0, 1);
    }

    private static void bad(String what, int... bytes) {
        FlowTalk x = Wire.opened();
        Wire.post(x, 1, bytes);
        x.tick(1);
        Check.due("BAD: " + what, x.count(1, 8), 1);
        Check.due("BAD is no more than counted: " + what, x.way(), 0);
        Check.due("BAD is not GOT: " + what, x.number(1, 2), 102);
    }

    private static void badOnes() {
        bad("nothing");
        bad("one byte", 2);
        bad("nine bytes", Arrays.copyOf(Wire.packet(Wire.DATA, 103, 0, Wire.NONE), 9));
        bad("no such kind", Wire.packet(10, 103, 201, Wire.NONE));
        bad("kind 255", Wire.packet(255, 103, 201, Wire.NONE));
        bad("DATA with options", Wire.packet(Wire.DATA, 103, 0, new int[] {0}));
        bad("121 bytes of options", Wire.packet(Wire.ACK, 103, 201, new int[121]));
        bad("41 bytes of DATA", Wire.packet(Wire.DATA, 103, 0, Wire.NONE, new int[41]));
        bad("41 bytes in BOTH", Wire.packet(Wire.BOTH, 103, 201, Wire.NONE, new int[41]));
        for (int kind : new int[] {0, 1, 3, 5, 6, 8, 9}) bad("a byte behind kind " + kind, Wire.packet(kind, 103, 201, Wire.NONE, 0));
        bad("a byte behind RESET", Wire.join(Wire.reset(103, 201, 1), new int[] {0}));
        bad("RESET without CODE", Wire.packet(Wire.RESET, 103, 201, Wire.NONE));
        bad("ACK without all of its ACK", Arrays.copyOf(Wire.packet(Wire.ACK, 103, 201, Wire.NONE), 15));
        int[] cut = Wire.packet(Wire.ACK, 103, 201, new int[5]);
        bad("options beyond its end", Arrays.copyOf(cut, cut.length - 1));
        FlowTalk x = Wire.opened();
        Wire.feed(x, Wire.packet(Wire.DATA, 103, 0, Wire.NONE));
        x.put(1, 10, false);
        x.tick(1);
        Check.due("BAD: wrong CHECK", x.count(1, 8), 1);
        x = new FlowTalk(0L, 0L, 0);
        x.put(1, 0, true);
        x.tick(1);
        Check.due("BAD in CLOSED", x.count(1, 8), 1);
        Check.due("BAD in CLOSED: nothing goes back", x.way(), 0);
    }

    private static void fine(String what, int... bytes) {
        FlowTalk x = Wire.opened();
        Wire.post(x, 1, bytes);
        x.tick(1);
        Check.due("not BAD: " + what, x.count(1, 8), 0);
        Check.due("GOT: " + what, x.number(1, 2), 103);
    }

    private static void notBad() {
        fine("DATA of 40", Wire.packet(Wire.DATA, 103, 0, Wire.NONE, new int[40]));
        fine("DATA of 0", Wire.packet(Wire.DATA, 103, 0, Wire.NONE));
        fine("BOTH of 120 and 40", Wire.packet(Wire.BOTH, 103, 201, new int[120], new int[40]));
        fine("RESET with options", Wire.reset(103, 201, 255, 0, 0, 0));
        fine("ACK whose options are WRONG", Wire.packet(Wire.ACK, 103, 201, new int[] {2}));
    }
}
