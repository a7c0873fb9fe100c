import java.util.Arrays;

/**
 * Two ends of a flow of datagrams and the link between them, as the document's promises 1 to 23 tell.
 *
 * All rows are made once, in constructors: a run of calls makes nothing more.
 */
public final class FlowTalk {
    public static final int UNKNOWN = -101, OUTSIDE = -102, STATE = -103, ROOM = -104;

    private static final long MASK = 0xFFFFFFFFFFFFL;
    private static final long HALF = 0x800000000000L;

    private static final int REQUEST = 0, RESPONSE = 1, DATA = 2, ACK = 3, BOTH = 4;
    private static final int ASK = 5, CLOSE = 6, RESET = 7, SYNC = 8, ANSWER = 9;

    private static final int CLOSED = 0, LISTENING = 1, REQUESTING = 2, RESPOND = 3, PARTOPEN = 4;
    private static final int OPEN = 5, ASKED = 6, CLOSING = 7, WAIT = 8;

    private static final int MUST = 1, CHANGE_L = 2, CONFIRM_L = 3, CHANGE_R = 4, CONFIRM_R = 5, VECTOR = 6;

    private static final int WINDOW = 1, RATIO = 2, VECTORS = 3, WAY = 4;
    private static final int[] LEAST = {16, 1, 0, 1};
    private static final int[] MOST = {255, 20, 1, 2};
    private static final int[] AT_FIRST = {100, 2, 1, 1};

    private static final int BY_CALL = 0, NOT_OPEN = 1, NOT_AWAITED = 2, WRONG = 3, REFUSED = 4, TIMED_OUT = 5;

    private static final int NO_DATA = 0, UNDER_WAY = 1, TOLD = 2, LOST = 3;

    private static final int SENDS = 0, COMES = 1, BAD = 2, OUT = 3, AGAIN = 4;

    private static final int MOST_BYTES = 220, MOST_OPTIONS = 120, MOST_DATA = 40, MOST_CHOICES = 3;
    private static final int MOST_ON_WAY = 60, MOST_TO_SEND = 20, MOST_KEPT = 40, MOST_CONFIRMS = 12;
    private static final int MOST_TICKS = 50, FED_AT_ONCE = 20;
    private static final int RING = 256, RING_MASK = 255;
    // the deepest number that can be told: an ACK 255 behind NEXT, 40 rows of 64 from there: 2814 behind NEXT
    private static final int OWN_RING = 4096, OWN_MASK = 4095;

    private final Link link;
    private final End[] ends = new End[2];
    private final int[] tape = new int[MOST_BYTES];
    private int taped;

    public FlowTalk(long first, long other, int delay) {
        link = new Link(1 + Math.floorMod(delay, 5));
        ends[0] = new End(0, first & MASK, link);
        ends[1] = new End(1, other & MASK, link);
    }

    public int open() {
        if (ends[0].state != CLOSED) return STATE;
        ends[0].restart(REQUESTING);
        ends[0].send(REQUEST, 0, 0);
        return 1;
    }

    public int listen() {
        if (ends[1].state != CLOSED) return STATE;
        ends[1].restart(LISTENING);
        return 1;
    }

    public int close(int end) {
        if (!isEnd(end)) return UNKNOWN;
        return ends[end].leave();
    }

    public int give(int end, int size, long v) {
        if (!isEnd(end)) return UNKNOWN;
        if (size < 0 || size > MOST_DATA) return OUTSIDE;
        End e = ends[end];
        if (e.state < REQUESTING || e.state > OPEN) return STATE;
        if (e.outbox.waiting() >= MOST_TO_SEND) return ROOM;
        e.outbox.begin();
        for (int i = 0; i < size; i++) {
            e.outbox.append((int) ((v >> (8 * (i % 8))) + i) & 255);
        }
        return e.outbox.waiting();
    }

    public int want(int end, int feature, boolean own, int n, int values) {
        if (!isEnd(end) || !isFeature(feature)) return UNKNOWN;
        if (n < 1 || n > MOST_CHOICES || (!own && feature <= RATIO)) return OUTSIDE;
        Agreements agreements = ends[end].agreements;
        agreements.scratch.unpack(n, values);
        if (!agreements.scratch.isRightFor(feature)) return OUTSIDE;
        if (ends[end].state == CLOSED || ends[end].state == WAIT) return STATE;
        agreements.wish(own, feature);
        return agreements.changing();
    }

    public int tick(int n) {
        if (n < 1 || n > MOST_TICKS) return OUTSIDE;
        for (int i = 0; i < n; i++) {
            link.time++;
            int before = link.load;
            int at = 0;
            for (int k = 0; k < before; k++) {
                Packet p = link.takeIfDue(at);
                if (p == null) at++;
                else ends[p.to & 1].come(p);
            }
            ends[0].pass();
            ends[1].pass();
        }
        return link.time;
    }

    public int lose(int i) {
        if (!link.has(i)) return UNKNOWN;
        link.take(i);
        return link.load;
    }

    public int hold(int i, int n) {
        if (!link.has(i)) return UNKNOWN;
        if (n < 0 || n > MOST_TICKS) return OUTSIDE;
        Packet p = link.packets[i];
        p.due += n;
        return p.due;
    }

    public int repeat(int i, int n) {
        if (!link.has(i)) return UNKNOWN;
        if (n < 0 || n > MOST_TICKS) return OUTSIDE;
        if (link.load >= MOST_ON_WAY) return ROOM;
        Packet p = link.packets[i];
        link.draft.fill(p.bytes, p.size);
        link.post(p.to, p.due + n);
        return link.load;
    }

    public int alter(int i, int k, int mask) {
        if (!link.has(i) || !link.packets[i].has(k)) return UNKNOWN;
        Packet p = link.packets[i];
        p.bytes[k] ^= mask & 255;
        return p.bytes[k];
    }

    public int feed(int a, int b, int c, int d, int e) {
        if (taped + FED_AT_ONCE > MOST_BYTES) return ROOM;
        feedOne(a);
        feedOne(b);
        feedOne(c);
        feedOne(d);
        feedOne(e);
        return taped;
    }

    public int put(int end, int n, boolean right) {
        if (!isEnd(end)) return UNKNOWN;
        if (n < 0 || n > taped) return OUTSIDE;
        if (link.load >= MOST_ON_WAY) return ROOM;
        link.draft.fill(tape, n);
        if (right) link.draft.makeCheckRight();
        link.post(end, link.time + 1);
        taped = 0;
        return link.load;
    }

    public int way() {
        return link.load;
    }

    public int packet(int i, int what) {
        if (!link.has(i)) return UNKNOWN;
        Packet p = link.packets[i];
        switch (what) {
            case 0: return p.to;
            case 1: return p.due;
            case 2: return p.size;
            default: return OUTSIDE;
        }
    }

    public int octet(int i, int k) {
        if (!link.has(i) || !link.packets[i].has(k)) return UNKNOWN;
        return link.packets[i].bytes[k];
    }

    public int state(int end) {
        return isEnd(end) ? ends[end].state : UNKNOWN;
    }

    public long number(int end, int what) {
        if (!isEnd(end)) return UNKNOWN;
        End e = ends[end];
        switch (what) {
            case 0: return e.next;
            case 1: return e.first;
            case 2: return e.receipts.high;
            case 3: return e.receipts.met;
            case 4: return e.receipts.base;
            case 5: return e.flight.recover;
            default: return OUTSIDE;
        }
    }

    public int feature(int end, int feature, boolean own, int what) {
        if (!isEnd(end) || !isFeature(feature)) return UNKNOWN;
        if (what < 0 || what > 5) return OUTSIDE;
        Feature f = ends[end].agreements.find(own, feature);
        if (f == null) return UNKNOWN;
        switch (what) {
            case 0: return f.value;
            case 1: return f.changing ? 1 : 0;
            case 2: return f.list.size;
            default: return f.list.item(what - 3);
        }
    }

    public int count(int end, int what) {
        if (!isEnd(end)) return UNKNOWN;
        if (what < 0 || what > 15) return OUTSIDE;
        End e = ends[end];
        if (what >= 6 && what <= 10) return e.tally[what - 6];
        switch (what) {
            case 0: return e.flight.pipe;
            case 1: return e.flight.cwnd;
            case 2: return e.flight.edge;
            case 3: return e.flight.rto;
            case 4: return e.flight.grown;
            case 5: return e.outbox.waiting();
            case 11: return e.inbox.begun;
            case 12: return e.agreements.changing();
            case 13: return e.agreements.confirms.due;
            case 14: return e.codeSent;
            default: return e.codeHeard;
        }
    }

    public int got(int end, int i, int k) {
        if (!isEnd(end)) return UNKNOWN;
        Datagrams inbox = ends[end].inbox;
        if (i < 0 || i >= inbox.begun || i < inbox.begun - MOST_KEPT) return UNKNOWN;
        int size = inbox.sizeOf(i);
        if (k == -1) return size;
        return k < -1 || k >= size ? UNKNOWN : inbox.byteOf(i, k);
    }

    public int seen(int end, long n) {
        if (!isEnd(end)) return UNKNOWN;
        Receipts receipts = ends[end].receipts;
        long behind = (receipts.high - n) & MASK;
        if (!receipts.any || behind >= RING) return -1;
        return receipts.has(n) ? 1 : 0;
    }

    public int sent(int end, long n) {
        if (!isEnd(end)) return UNKNOWN;
        End e = ends[end];
        long behind = (e.next - n) & MASK;
        if (behind < 1 || behind >= RING || isAfter(e.first, n)) return -1;
        return e.flight.marks[(int) (n & RING_MASK)];
    }

    private void feedOne(int word) {
        for (int shift = 24; shift >= 0; shift -= 8) {
            if (taped < tape.length) tape[taped++] = (word >> shift) & 255;
        }
    }

    private static boolean isEnd(int end) {
        return end == 0 || end == 1;
    }

    private static boolean isFeature(int id) {
        return id >= WINDOW && id <= WAY;
    }

    /** BEFORE is this with its arguments turned round. */
    private static boolean isAfter(long a, long b) {
        long ahead = (a - b) & MASK;
        return ahead >= 1 && ahead < HALF;
    }

    /** Bytes, where they go and when they come. */
    private static final class Packet {
        final int[] bytes = new int[MOST_BYTES];
        int size;
        int to;
        int due;

        boolean has(int k) {
            return k >= 0 && k < size && k < bytes.length;
        }

        int byteAt(int k) {
            return k >= 0 && k < size && k < bytes.length ? bytes[k] : 0;
        }

        void append(int b) {
            if (size < bytes.length) bytes[size++] = b & 255;
        }

        void fill(int[] from, int n) {
            size = Math.max(0, Math.min(n, Math.min(from.length, bytes.length)));
            System.arraycopy(from, 0, bytes, 0, size);
        }

        void begin(int kind, long number, long ack) {
            bytes[0] = kind;
            bytes[1] = 0;
            bytes[2] = 0;
            bytes[3] = 0;
            size = 4;
            appendNumber(number);
            if (hasAck()) appendNumber(ack);
        }

        void appendNumber(long n) {
            for (int shift = 40; shift >= 0; shift -= 8) {
                if (size < bytes.length) bytes[size++] = (int) (n >> shift) & 255;
            }
        }

        long numberAt(int k) {
            if (!has(k) || !has(k + 5)) return 0;
            long n = 0;
            for (int i = 0; i < 6; i++) {
                n = n << 8 | bytes[k + i];
            }
            return n;
        }

        int kind() {
            return bytes[0];
        }

        boolean hasAck() {
            return bytes[0] != REQUEST && bytes[0] != DATA;
        }

        boolean hasData() {
            return bytes[0] == DATA || bytes[0] == BOTH;
        }

        int optionsAt() {
            if (bytes[0] == REQUEST || bytes[0] == DATA) return 10;
            return bytes[0] == RESET ? 17 : 16;
        }

        int optionsEnd() {
            return optionsAt() + bytes[1];
        }

        int check() {
            int sum = 0;
            for (int i = 0; i < size && i < bytes.length; i++) {
                if (i != 2 && i != 3) sum += i % 2 == 0 ? bytes[i] << 8 : bytes[i];
            }
            // a sum of 110 pairs is below 2^23, so two folds bring it to 16 bits
            for (int fold = 0; fold < 2; fold++) {
                if (sum > 65535) sum = (sum & 65535) + (sum >> 16);
            }
            return 65535 - sum;
        }

        void makeCheckRight() {
            if (size < 4) return;
            int check = check();
            bytes[2] = check >> 8;
            bytes[3] = check & 255;
        }

        /** All of part 1 but what stands inside the options. */
        boolean isAsTold() {
            if (size < 10 || bytes[0] > ANSWER || bytes[1] > MOST_OPTIONS) return false;
            if (bytes[0] == DATA && bytes[1] > 0) return false;
            int data = size - optionsEnd();
            if (data < 0 || data > (hasData() ? MOST_DATA : 0)) return false;
            return check() == bytes[2] * 256 + bytes[3];
        }
    }

    /** The time, and the packets on the way in the order in which they came there. */
    private static final class Link {
        final Packet[] packets = new Packet[MOST_ON_WAY];
        final int delay;
        int time;
        int load;
        /** The packet that is being written. */
        Packet draft = new Packet();
        /** The packet taken latest: it is still read while answers to it come on the way. */
        private Packet taken = new Packet();

        Link(int delay) {
            this.delay = delay;
            for (int i = 0; i < packets.length; i++) {
                packets[i] = new Packet();
            }
        }

        boolean has(int i) {
            return i >= 0 && i < load && i < packets.length;
        }

        Packet takeIfDue(int i) {
            return has(i) && packets[i].due <= time ? take(i) : null;
        }

        Packet take(int i) {
            if (!has(i)) return null;
            Packet free = taken;
            taken = packets[i];
            load--;
            for (int k = i; k < load; k++) {
                packets[k] = packets[k + 1];
            }
            packets[load] = free;
            return taken;
        }

        /** The draft comes on the way, or is lost where there is no room. */
        void post(int to, int due) {
            if (load < 0 || load >= packets.length) return;
            Packet free = packets[load];
            draft.to = to;
            draft.due = due;
            packets[load] = draft;
            draft = free;
            load++;
        }
    }

    /** A LIST of values. */
    private static final class Choices {
        private final int[] items = new int[MOST_CHOICES];
        int size;

        int item(int i) {
            return i >= 0 && i < size && i < items.length ? items[i] : -1;
        }

        void add(int v) {
            if (size < items.length) items[size++] = v;
        }

        void unpack(int n, int values) {
            size = 0;
            for (int i = 0; i < n && i < MOST_CHOICES; i++) {
                add((values >> (8 * i)) & 255);
            }
        }

        void read(Packet p, int from, int n) {
            size = 0;
            for (int i = 0; i < n && i < MOST_CHOICES; i++) {
                add(p.byteAt(from + i));
            }
        }

        void copy(Choices other) {
            size = 0;
            for (int i = 0; i < other.size; i++) {
                add(other.item(i));
            }
        }

        boolean isRightFor(int id) {
            if (!isFeature(id) || size < 1 || (id <= RATIO && size > 1)) return false;
            for (int i = 0; i < size; i++) {
                if (items[i] < LEAST[id - 1] || items[i] > MOST[id - 1]) return false;
                for (int k = 0; k < i; k++) {
                    if (items[k] == items[i]) return false;
                }
            }
            return true;
        }

        int firstThatIsIn(Choices other, int otherwise) {
            for (int i = 0; i < size; i++) {
                for (int k = 0; k < other.size; k++) {
                    if (items[i] == other.items[k]) return items[i];
                }
            }
            return otherwise;
        }
    }

    /** What one end has of one feature of one end. */
    private static final class Feature {
        final int id;
        final Choices list = new Choices();
        int value;
        boolean changing;
        /** Wanted, and no packet that could have options went since. */
        boolean untold;
        private boolean heard;
        private long latest;

        Feature(int id) {
            this.id = id;
        }

        void restart() {
            value = isFeature(id) ? AT_FIRST[id - 1] : 0;
            list.size = 0;
            list.add(value);
            if (id == VECTORS) list.add(0);
            if (id == WAY) list.add(2);
            changing = false;
            untold = false;
            heard = false;
            latest = 0;
        }

        /** Whether an option for it in a packet of this number is heard; if so, LATEST is that. */
        boolean hears(long number) {
            if (heard && isAfter(latest, number)) return false;
            heard = true;
            latest = number;
            return true;
        }
    }

    /** CONFIRMS that are due, as the bytes that they will be. */
    private static final class Confirms {
        private static final int WIDTH = 7;
        private final int[] rows = new int[MOST_CONFIRMS * WIDTH];
        int due;

        void addEmpty(int option, int id) {
            if (due >= MOST_CONFIRMS) return;
            int at = due++ * WIDTH;
            rows[at] = option;
            rows[at + 1] = 3;
            rows[at + 2] = id;
        }

        void add(int option, int id, int value, Choices list) {
            if (due >= MOST_CONFIRMS) return;
            int at = due * WIDTH;
            addEmpty(option, id);
            int size = list == null ? 0 : list.size;
            rows[at + 1] = 4 + size;
            rows[at + 3] = value;
            for (int i = 0; i < size && i < MOST_CHOICES; i++) {
                rows[at + 4 + i] = list.item(i);
            }
        }

        /** All of them: twelve take 72 bytes at most, so there is always room. */
        void moveTo(Packet p) {
            for (int i = 0; i < due && i < MOST_CONFIRMS; i++) {
                int at = i * WIDTH;
                for (int k = 0; k < rows[at + 1] && k < WIDTH; k++) {
                    p.append(rows[at + k]);
                }
            }
            due = 0;
        }
    }

    /** Part 2 as one end has it: the features of both ends, and the options that speak of them. */
    private static final class Agreements {
        private static final int EACH = 4;
        private final boolean isEndOne;
        /** Its own ones first, which is the order of CHANGES in a packet. */
        private final Feature[] features = new Feature[2 * EACH];
        final Confirms confirms = new Confirms();
        final Choices scratch = new Choices();
        private int spokeAt;

        Agreements(boolean isEndOne) {
            this.isEndOne = isEndOne;
            for (int i = 0; i < features.length; i++) {
                features[i] = new Feature(1 + i % EACH);
            }
        }

        void restart() {
            for (int i = 0; i < features.length; i++) {
                features[i].restart();
            }
            confirms.due = 0;
            spokeAt = 0;
        }

        Feature find(boolean own, int id) {
            if (id < WINDOW || id > WAY) return null;
            return features[own ? id - 1 : EACH + id - 1];
        }

        int valueOf(boolean own, int id) {
            Feature f = find(own, id);
            return f == null ? 0 : f.value;
        }

        /** The list that is wanted stands in scratch. */
        void wish(boolean own, int id) {
            Feature f = find(own, id);
            if (f == null) return;
            f.list.copy(scratch);
            f.changing = true;
            f.untold = true;
        }

        int changing() {
            int n = 0;
            for (int i = 0; i < features.length; i++) {
                if (features[i].changing) n++;
            }
            return n;
        }

        boolean isChangeDue(int time) {
            for (int i = 0; i < features.length; i++) {
                Feature f = features[i];
                if (f.changing && (f.untold || time - spokeAt >= 4)) return true;
            }
            return false;
        }

        /** All of them: behind twelve CONFIRMS they end at byte 100 at most, so there is always room. */
        void writeChanges(Packet p, int time) {
            for (int i = 0; i < features.length; i++) {
                Feature f = features[i];
                f.untold = false;
                if (f.changing) {
                    p.append(i < EACH ? CHANGE_L : CHANGE_R);
                    p.append(3 + f.list.size);
                    p.append(f.id);
                    for (int k = 0; k < f.list.size; k++) {
                        p.append(f.list.item(k));
                    }
                }
            }
            spokeAt = time;
        }

        /** Hears a packet's options from the left: 0, WRONG or REFUSED. */
        int hear(Packet p) {
            int end = p.optionsEnd();
            boolean must = false;
            int length = 1;
            for (int at = p.optionsAt(); at < end; at += length) {
                int option = p.byteAt(at);
                if (option <= MUST) {
                    if (must && option == MUST) return WRONG;
                    must = option == MUST;
                    length = 1;
                    continue;
                }
                length = at + 1 < end ? p.byteAt(at + 1) : 0;
                if (length < 2 || at + length > end || !isRight(p, at, length)) return WRONG;
                if (must && option > VECTOR) return WRONG;
                must = false;
                if (option == CHANGE_L || option == CHANGE_R) hearChange(p, at, length);
                if (option == CONFIRM_L || option == CONFIRM_R) {
                    if (!hearConfirm(p, at, length)) return REFUSED;
                }
            }
            return must ? WRONG : 0;
        }

        private static boolean isRight(Packet p, int at, int length) {
            switch (p.byteAt(at)) {
                case CHANGE_L:
                case CHANGE_R:
                    return length >= 4 && length <= 6;
                case CONFIRM_L:
                case CONFIRM_R:
                    return length >= 3 && length <= 7;
                case VECTOR:
                    if (length < 3 || length > 42) return false;
                    for (int i = 2; i < length; i++) {
                        int row = p.byteAt(at + i) >> 6;
                        if (row == 1 || row == 2) return false;
                    }
                    return true;
                default:
                    return true;
            }
        }

        private void hearChange(Packet p, int at, int length) {
            boolean own = p.byteAt(at) == CHANGE_R;
            int answer = own ? CONFIRM_L : CONFIRM_R;
            int id = p.byteAt(at + 2);
            Feature f = find(own, id);
            if (f == null) {
                confirms.addEmpty(answer, id);
                return;
            }
            if (!f.hears(p.numberAt(4))) return;
            scratch.read(p, at + 3, length - 3);
            if (!scratch.isRightFor(id) || (own && id <= RATIO)) {
                confirms.addEmpty(answer, id);
            } else if (id <= RATIO) {
                f.value = scratch.item(0);
                confirms.add(answer, id, f.value, null);
            } else {
                f.value = reconciled(f);
                confirms.add(answer, id, f.value, f.list);
            }
        }

        /** Whether it is not REFUSED. */
        private boolean hearConfirm(Packet p, int at, int length) {
            int id = p.byteAt(at + 2);
            Feature f = find(p.byteAt(at) == CONFIRM_R, id);
            if (f == null || !f.hears(p.numberAt(4)) || !f.changing) return true;
            if (length == 3) {
                f.changing = false;
                return true;
            }
            int value = p.byteAt(at + 3);
            if (id <= RATIO) {
                if (value != f.list.item(0)) return true;
            } else {
                scratch.read(p, at + 4, length - 4);
                if (!scratch.isRightFor(id) || value != reconciled(f)) return false;
            }
            f.value = value;
            f.changing = false;
            return true;
        }

        /** The list that was told stands in scratch; end 1's leads, whoever reconciles. */
        private int reconciled(Feature f) {
            return isEndOne ? f.list.firstThatIsIn(scratch, f.value) : scratch.firstThatIsIn(f.list, f.value);
        }
    }

    /** What an end got of the other's numbers, and what it told of that. */
    private static final class Receipts {
        private static final int TOLD_BEHIND = 100, MOST_ROWS = 40, ROW = 64, MISSING = 3;
        boolean any;
        long met;
        long high;
        long base;
        /** 1 where a number is got; those less than 256 behind HIGH have a place each. */
        private final byte[] marks = new byte[RING];
        /** By own numbers, those since FIRST: HIGH when a VECTOR went in that packet, -1 for none. */
        private final long[] highThen = new long[OWN_RING];

        void restart() {
            any = false;
            met = 0;
            high = 0;
            base = 0;
            Arrays.fill(marks, (byte) 0);
        }

        void meet(long n) {
            any = true;
            met = n;
            high = n;
            base = n;
            Arrays.fill(marks, (byte) 0);
            marks[(int) (n & RING_MASK)] = 1;
        }

        boolean fits(long n, int window) {
            return !isAfter(met, n) && ((n - (high + 1 - window / 4)) & MASK) < window;
        }

        /** Only for numbers less than 256 behind HIGH, or AFTER it. */
        boolean has(long n) {
            return !isAfter(n, high) && marks[(int) (n & RING_MASK)] == 1;
        }

        void add(long n) {
            if (isAfter(n, high)) {
                long ahead = Math.min(RING, (n - high) & MASK);
                for (int i = 1; i <= ahead; i++) {
                    marks[(int) ((high + i) & RING_MASK)] = 0;
                }
                high = n;
            }
            marks[(int) (n & RING_MASK)] = 1;
        }

        /** BASE is never BEFORE MET nor AFTER HIGH + 1, so it alone bounds the VECTOR. */
        boolean writeVector(Packet p) {
            int start = p.size;
            int span = any ? (int) Math.min(TOLD_BEHIND, (high + 1 - base) & MASK) : 0;
            p.append(VECTOR);
            p.append(0);
            int behind = 0;
            for (int rows = 0; rows < MOST_ROWS && behind < span; rows++) {
                int mark = markBehind(behind);
                int run = 1;
                while (run < ROW && behind + run < span && markBehind(behind + run) == mark) {
                    run++;
                }
                p.append((mark == 1 ? 0 : MISSING * ROW) + run - 1);
                behind += run;
            }
            if (span == 0 || p.size - p.optionsAt() > MOST_OPTIONS) {
                p.size = start;
                return false;
            }
            if (p.has(start + 1)) p.bytes[start + 1] = p.size - start;
            return true;
        }

        private int markBehind(int behind) {
            return marks[(int) ((high - behind) & RING_MASK)];
        }

        void noteOwn(long own, boolean withVector) {
            highThen[(int) (own & OWN_MASK)] = withVector ? high : -1;
        }

        /** Only for numbers sent since FIRST: what stands for others is of an earlier life. */
        void ownIsTold(long own) {
            long then = highThen[(int) (own & OWN_MASK)];
            if (then < 0) return;
            long above = (then + 1) & MASK;
            if (isAfter(above, base)) base = above;
        }
    }

    /** Part 5: what an end sent, and how much may be under way. */
    private static final class Flight {
        private static final int MOST_CWND = 60, LEAST_RTO = 8, MOST_RTO = 64;
        /** SENT, a place for each number less than 256 behind NEXT. */
        final byte[] marks = new byte[RING];
        int pipe;
        int cwnd;
        int edge;
        int rto;
        int grown;
        long recover;
        private int clock;

        void restart() {
            Arrays.fill(marks, (byte) NO_DATA);
            pipe = 0;
            cwnd = 3;
            edge = 64;
            rto = LEAST_RTO;
            grown = 0;
            recover = -1;
            clock = 0;
        }

        /** A number was sent; the one that is then 256 behind NEXT is in SENT no more. */
        void note(long n, boolean data, int time) {
            if (data && pipe == 0) clock = time;
            marks[(int) (n & RING_MASK)] = (byte) (data ? UNDER_WAY : NO_DATA);
            if (data) pipe++;
            int oldest = (int) ((n + 1) & RING_MASK);
            if (marks[oldest] == UNDER_WAY) pipe--;
            marks[oldest] = NO_DATA;
        }

        void isTold(long n, int time) {
            int at = (int) (n & RING_MASK);
            if (marks[at] == LOST) marks[at] = TOLD;
            if (marks[at] != UNDER_WAY) return;
            marks[at] = TOLD;
            pipe--;
            rto = LEAST_RTO;
            clock = time;
            if (cwnd < edge) {
                cwnd = Math.min(MOST_CWND, cwnd + 1);
                return;
            }
            grown++;
            if (grown == cwnd) {
                cwnd = Math.min(MOST_CWND, cwnd + 1);
                grown = 0;
            }
        }

        /** At most one of those that are lost together halves: RECOVER is then AFTER all others. */
        void findLost(long next) {
            int told = 0;
            int left = pipe;
            boolean halves = false;
            for (int behind = 1; behind < RING && left > 0; behind++) {
                long n = (next - behind) & MASK;
                int at = (int) (n & RING_MASK);
                if (marks[at] == TOLD) told++;
                if (marks[at] == UNDER_WAY) {
                    left--;
                    if (told >= 3) {
                        marks[at] = LOST;
                        pipe--;
                        halves |= recover < 0 || isAfter(n, recover);
                    }
                }
            }
            if (!halves) return;
            edge = Math.max(2, cwnd / 2);
            cwnd = Math.max(1, cwnd / 2);
            grown = 0;
            recover = (next - 1) & MASK;
        }

        void loseIfTooLong(long next, int time) {
            if (pipe == 0 || time - clock < rto) return;
            for (int i = 0; i < RING; i++) {
                if (marks[i] == UNDER_WAY) marks[i] = LOST;
            }
            pipe = 0;
            edge = Math.max(2, cwnd / 2);
            cwnd = 1;
            grown = 0;
            recover = (next - 1) & MASK;
            rto = Math.min(MOST_RTO, 2 * rto);
            clock = time;
        }
    }

    /** Rows of datagrams, used again in turn: the latest ones are kept, and they can be taken from the first on. */
    private static final class Datagrams {
        private final int kept;
        private final int[] bytes;
        private final int[] sizes;
        int begun;
        private int gone;

        Datagrams(int room) {
            kept = Math.max(1, room);
            bytes = new int[kept * MOST_DATA];
            sizes = new int[kept];
        }

        int waiting() {
            return begun - gone;
        }

        void clear() {
            begun = 0;
            gone = 0;
        }

        void begin() {
            sizes[row(begun)] = 0;
            begun++;
        }

        /** Behind the datagram that was begun latest. */
        void append(int b) {
            int row = row(begun - 1);
            if (sizes[row] < MOST_DATA) bytes[row * MOST_DATA + sizes[row]++] = b;
        }

        int sizeOf(int i) {
            return sizes[row(i)];
        }

        int byteOf(int i, int k) {
            return k >= 0 && k < MOST_DATA ? bytes[row(i) * MOST_DATA + k] : 0;
        }

        void moveFirstTo(Packet p) {
            if (gone >= begun) return;
            int row = row(gone);
            for (int k = 0; k < sizes[row] && k < MOST_DATA; k++) {
                p.append(bytes[row * MOST_DATA + k]);
            }
            gone++;
        }

        private int row(int i) {
            return Math.floorMod(i, kept);
        }
    }

    /** Parts 3, 4 and 6: one end's state, and what it does with packets and ticks. */
    private static final class End {
        private final int side;
        private final Link link;
        final Agreements agreements;
        final Receipts receipts = new Receipts();
        final Flight flight = new Flight();
        final Datagrams outbox = new Datagrams(MOST_TO_SEND);
        final Datagrams inbox = new Datagrams(MOST_KEPT);
        final int[] tally = new int[5];
        int codeSent = -1;
        int codeHeard = -1;
        int state;
        long next;
        long first;
        /** When its state began, or when it said latest what it says again. */
        private int since;
        private int tries;
        private int syncAt;
        private int unanswered;
        private int unansweredSince;

        End(int side, long next, Link link) {
            this.side = side;
            this.link = link;
            this.next = next;
            agreements = new Agreements(side == 1);
            restart(CLOSED);
        }

        void restart(int newState) {
            enter(newState);
            first = next;
            agreements.restart();
            receipts.restart();
            flight.restart();
            outbox.clear();
            unanswered = 0;
        }

        private void enter(int newState) {
            state = newState;
            since = link.time;
            tries = 1;
        }

        int leave() {
            switch (state) {
                case LISTENING:
                    enter(CLOSED);
                    return state;
                case REQUESTING:
                case RESPOND:
                    abort(BY_CALL);
                    return state;
                case PARTOPEN:
                case OPEN:
                    outbox.clear();
                    enter(side == 0 ? CLOSING : ASKED);
                    send(side == 0 ? CLOSE : ASK, receipts.high, 0);
                    return state;
                default:
                    return STATE;
            }
        }

        private void abort(int code) {
            send(RESET, receipts.high, code);
            enter(CLOSED);
        }

        /** The code is for a RESET alone; DATA and BOTH take the first datagram to send. */
        void send(int kind, long ack, int code) {
            Packet p = link.draft;
            p.begin(kind, next, ack);
            boolean vector = false;
            if (kind == RESET) {
                p.append(code);
                codeSent = code;
            } else if (kind != DATA) {
                agreements.confirms.moveTo(p);
                agreements.writeChanges(p, link.time);
                boolean tells = (kind == ACK || kind == BOTH) && agreements.valueOf(true, VECTORS) == 1;
                vector = tells && receipts.writeVector(p);
                p.bytes[1] = p.size - p.optionsAt();
            }
            if (p.hasData()) outbox.moveFirstTo(p);
            if (kind == ACK || kind == BOTH) unanswered = 0;
            if (kind == SYNC) syncAt = link.time;
            receipts.noteOwn(next, vector);
            flight.note(next, p.hasData(), link.time);
            next = (next + 1) & MASK;
            tally[SENDS]++;
            p.makeCheckRight();
            link.post(1 - side, link.time + link.delay);
        }

        void come(Packet p) {
            tally[COMES]++;
            if (!p.isAsTold()) {
                tally[BAD]++;
                return;
            }
            switch (state) {
                case CLOSED:
                case WAIT:
                    reject(p, NOT_OPEN);
                    break;
                case LISTENING:
                    comeListening(p);
                    break;
                case REQUESTING:
                    comeRequesting(p);
                    break;
                default:
                    comeLive(p);
            }
        }

        private void reject(Packet p, int code) {
            if (p.kind() != RESET) send(RESET, receipts.high, code);
        }

        private void comeListening(Packet p) {
            if (p.kind() != REQUEST) {
                reject(p, NOT_OPEN);
                return;
            }
            receipts.meet(p.numberAt(4));
            enter(RESPOND);
            int fault = agreements.hear(p);
            if (fault != 0) abort(fault);
            else send(RESPONSE, receipts.high, 0);
        }

        private void comeRequesting(Packet p) {
            boolean fits = p.hasAck() && ackFits(p.numberAt(10));
            if (p.kind() == RESET && fits) {
                codeHeard = p.byteAt(16);
                enter(CLOSED);
            } else if (p.kind() == RESPONSE && fits) {
                receipts.meet(p.numberAt(4));
                enter(PARTOPEN);
                int fault = agreements.hear(p);
                if (fault != 0) abort(fault);
                else send(ACK, receipts.high, 0);
            } else {
                reject(p, NOT_AWAITED);
            }
        }

        private boolean ackFits(long ack) {
            return !isAfter(first, ack) && ((next - 1 - ack) & MASK) < agreements.valueOf(true, WINDOW);
        }

        private void comeLive(Packet p) {
            int kind = p.kind();
            long number = p.numberAt(4);
            boolean fits = receipts.fits(number, agreements.valueOf(false, WINDOW));
            if (!fits || (p.hasAck() && !ackFits(p.numberAt(10)))) {
                tally[OUT]++;
                if (kind < RESET) sync(number);
                return;
            }
            if (kind == RESPONSE && state == PARTOPEN) {
                send(ACK, receipts.high, 0);
                return;
            }
            if (kind == RESPONSE || (kind == REQUEST && state != RESPOND) || (kind == ASK && side == 1)) {
                sync(number);
                return;
            }
            if (receipts.has(number)) {
                tally[AGAIN]++;
                return;
            }
            receipts.add(number);
            int fault = kind == DATA ? 0 : agreements.hear(p);
            if (fault != 0) {
                abort(fault);
                return;
            }
            if (p.hasAck() && kind != SYNC && kind != ANSWER) tell(p);
            boolean opens = (state == RESPOND && kind != REQUEST) || (state == PARTOPEN && kind != SYNC);
            if (opens) enter(OPEN);
            if (p.hasData()) deliver(p);
            answer(kind, p);
        }

        private void sync(long number) {
            if (syncAt < link.time) send(SYNC, number, 0);
        }

        /** What a packet tells to be got: its ACK and, from there downwards, each VECTOR's. */
        private void tell(Packet p) {
            long ack = p.numberAt(10);
            tellRow(ack, 1);
            int end = p.optionsEnd();
            int length = 1;
            for (int at = p.optionsAt(); at < end; at += length) {
                length = p.byteAt(at) <= MUST ? 1 : Math.max(1, p.byteAt(at + 1));
                if (p.byteAt(at) != VECTOR) continue;
                long top = ack;
                for (int i = 2; i < length; i++) {
                    int row = p.byteAt(at + i);
                    int run = (row & 63) + 1;
                    if (row < 64) tellRow(top, run);
                    top -= run;
                }
            }
            flight.findLost(next);
        }

        private void tellRow(long top, int run) {
            for (int i = 0; i < run; i++) {
                long n = (top - i) & MASK;
                long behind = (next - n) & MASK;
                if (behind < 1 || behind >= OWN_RING || isAfter(first, n)) return;
                receipts.ownIsTold(n);
                if (behind < RING) flight.isTold(n, link.time);
            }
        }

        private void deliver(Packet p) {
            inbox.begin();
            for (int k = p.optionsEnd(); k < p.size; k++) {
                inbox.append(p.byteAt(k));
            }
            if (unanswered == 0) unansweredSince = link.time;
            unanswered++;
        }

        private void answer(int kind, Packet p) {
            switch (kind) {
                case REQUEST:
                    send(RESPONSE, receipts.high, 0);
                    break;
                case ASK:
                    if (state == CLOSING) break;
                    enter(CLOSING);
                    send(CLOSE, receipts.high, 0);
                    break;
                case CLOSE:
                    send(RESET, receipts.high, BY_CALL);
                    enter(CLOSED);
                    break;
                case RESET:
                    codeHeard = p.byteAt(16);
                    enter(WAIT);
                    break;
                case SYNC:
                    send(ANSWER, p.numberAt(4), 0);
                    break;
                default:
                    break;
            }
        }

        void pass() {
            passState();
            if (state == PARTOPEN || state == OPEN) {
                flight.loseIfTooLong(next, link.time);
                sendDatagrams();
            }
            if (state >= PARTOPEN && state <= CLOSING && mustSpeak()) send(ACK, receipts.high, 0);
        }

        private void passState() {
            int gone = link.time - since;
            switch (state) {
                case REQUESTING:
                    if (gone >= 4 << (tries - 1)) sayAgain(REQUEST);
                    break;
                case RESPOND:
                    if (gone >= 40) abort(TIMED_OUT);
                    break;
                case PARTOPEN:
                    if (gone >= 40) abort(TIMED_OUT);
                    else if (gone > 0 && gone % 4 == 0) send(SYNC, receipts.high, 0);
                    break;
                case ASKED:
                    if (gone >= 6) sayAgain(ASK);
                    break;
                case CLOSING:
                    if (gone >= 6) sayAgain(CLOSE);
                    break;
                case WAIT:
                    if (gone >= 12) enter(CLOSED);
                    break;
                default:
                    break;
            }
        }

        /** Five times in all; then a REQUEST is given up in silence, the others with a RESET. */
        private void sayAgain(int kind) {
            if (tries < 5) {
                tries++;
                since = link.time;
                send(kind, receipts.high, 0);
                return;
            }
            if (kind != REQUEST) send(RESET, receipts.high, TIMED_OUT);
            enter(CLOSED);
        }

        private void sendDatagrams() {
            boolean byPipe = agreements.valueOf(true, WAY) == 1;
            int most = byPipe ? 4 : 2;
            for (int went = 0; went < most; went++) {
                if (outbox.waiting() == 0 || (byPipe && flight.pipe >= flight.cwnd)) return;
                boolean both = state == PARTOPEN || mustSpeak();
                send(both ? BOTH : DATA, receipts.high, 0);
            }
        }

        /** An ACK is due, or a CONFIRM, or a CHANGE. */
        private boolean mustSpeak() {
            boolean late = unanswered > 0 && link.time - unansweredSince >= 2;
            return late || unanswered >= agreements.valueOf(false, RATIO)
                || agreements.confirms.due > 0 || agreements.isChangeDue(link.time);
        }
    }
}
