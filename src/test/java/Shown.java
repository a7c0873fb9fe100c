import java.util.Arrays;

/** All that calls show of an object, but for its tape. */
final class Shown {
    private long[] all = new long[4096];
    private String[] names = new String[4096];
    private int size;

    private Shown() {
    }

    static Shown of(FlowTalk x) {
        Shown s = new Shown();
        s.add("way()", x.way());
        for (int i = 0; i < x.way(); i++) s.packet(x, i);
        for (int end = 0; end < 2; end++) s.end(x, end);
        return s;
    }

    /** What differs, or null. */
    String differs(Shown other) {
        int both = Math.min(size, other.size);
        for (int i = 0; i < both; i++) {
            if (all[i] != other.all[i] || !names[i].equals(other.names[i])) {
                return names[i] + " is " + all[i] + ", was " + other.all[i];
            }
        }
        return size == other.size ? null : "more is shown";
    }

    private void add(String name, long answer) {
        if (size == all.length) {
            all = Arrays.copyOf(all, 2 * size);
            names = Arrays.copyOf(names, 2 * size);
        }
        names[size] = name;
        all[size++] = answer;
    }

    private void packet(FlowTalk x, int i) {
        for (int what = 0; what < 3; what++) add("packet " + i, x.packet(i, what));
        for (int k = 0; k < x.packet(i, 2); k++) add("octet of " + i, x.octet(i, k));
    }

    private void end(FlowTalk x, int end) {
        add("state", x.state(end));
        for (int what = 0; what < 6; what++) add("number " + what, x.number(end, what));
        for (int what = 0; what < 16; what++) add("count " + what, x.count(end, what));
        for (int i = 0; i < 48; i++) add("feature", x.feature(end, 1 + i % 4, i < 24, i / 4 % 6));
        int delivered = x.count(end, 11);
        for (int i = Math.max(0, delivered - 40); i < delivered; i++) {
            for (int k = -1; k < x.got(end, i, -1); k++) add("got " + i, x.got(end, i, k));
        }
        for (int behind = -1; behind <= 256; behind++) {
            add("seen " + behind, x.seen(end, x.number(end, 2) - behind));
            add("sent " + behind, x.sent(end, x.number(end, 0) - behind));
        }
    }
}
