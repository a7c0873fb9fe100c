import java.util.ArrayList;
import java.util.List;
import java.util.Random;

/** Random runs, each call and all that can be asked behind it held against Model. */
public final class ModelTest {
    private static final long TOP = (1L << 48) - 1;
    private final Random random;
    private final FlowTalk x;
    private final Model y;
    private final int mood;
    private String last = "";
    private final List<String> log = new ArrayList<>();
    static final int[] states = new int[9];
    static final int[] reached = new int[16];

    private ModelTest(long seed) {
        random = new Random(seed);
        long[] starts = {0, 5, TOP, TOP - 20, 1L << 47, (1L << 47) - 3, random.nextLong(), 1000};
        long a = starts[random.nextInt(starts.length)], b = starts[random.nextInt(starts.length)];
        int delay = random.nextInt(9) - 2;
        x = new FlowTalk(a, b, delay);
        y = new Model(a, b, delay);
        mood = random.nextInt(6);
        log.add("new FlowTalk(" + a + "L, " + b + "L, " + delay + ")");
    }

    public static void main(String[] args) {
        int runs = args.length > 0 ? Integer.parseInt(args[0]) : 400;
        int wrong = 0;
        for (long seed = 1; seed <= runs && wrong < 5; seed++) {
            ModelTest t = new ModelTest(seed);
            String fault = t.run();
            if (fault != null) {
                wrong++;
                System.out.println("seed " + seed + ": " + fault);
                if (args.length > 1) t.log.forEach(System.out::println);
            }
        }
        for (int s = 0; s < 9; s++) {
            if (states[s] == 0) {
                System.out.println("no run came to state " + s);
                wrong++;
            }
        }
        if (args.length > 0) System.out.println(java.util.Arrays.toString(states) + java.util.Arrays.toString(reached));
        if (wrong > 0) System.exit(1);
    }

    private String run() {
        int calls = 80 + random.nextInt(430);
        for (int i = 0; i < calls; i++) {
            long[] answers = i < 2 && random.nextInt(4) > 0 ? (i == 0 ? pair("listen()", x.listen(), y.listen())
                : pair("open()", x.open(), y.open())) : step();
            log.add(last);
            if (answers[0] != answers[1]) return "call " + i + " " + last + " answered " + answers[0] + ", model " + answers[1];
            String fault = compare();
            if (fault != null) return "behind call " + i + " " + last + ": " + fault;
        }
        return null;
    }

    private long[] pair(String call, long a, long b) {
        last = call;
        return new long[] {a, b};
    }

    private int end() {
        return random.nextInt(40) == 0 ? random.nextInt(5) - 2 : random.nextInt(2);
    }

    private int index() {
        int n = y.way();
        return random.nextInt(20) == 0 || n == 0 ? random.nextInt(64) - 2 : random.nextInt(n);
    }

    private int ticks() {
        int r = random.nextInt(100);
        return r < 70 ? 1 : r < 90 ? 1 + random.nextInt(6) : r < 97 ? 1 + random.nextInt(50) : random.nextInt(60) - 4;
    }

    private long[] step() {
        if (mood == 2 && random.nextInt(60) > 0) return calm();
        if (mood == 3 && random.nextInt(3) > 0) return busy();
        int r = random.nextInt(100);
        if (r < 4) return random.nextBoolean() ? pair("open()", x.open(), y.open()) : pair("listen()", x.listen(), y.listen());
        if (r < 5 || (mood == 4 && r < 9)) {
            int e = end();
            return pair("close(" + e + ")", x.close(e), y.close(e));
        }
        if (r < 30) {
            int e = end(), s = random.nextInt(30) == 0 ? random.nextInt(60) - 9 : random.nextInt(41);
            long v = random.nextLong();
            return pair("give(" + e + ", " + s + ", " + v + "L)", x.give(e, s, v), y.give(e, s, v));
        }
        if (r < 38) return wish();
        if (r < 62) {
            int n = ticks();
            return pair("tick(" + n + ")", x.tick(n), y.tick(n));
        }
        if (r < 78) return harm(random.nextInt(mood == 0 ? 14 : 4));
        return craft();
    }

    /** Much data and little harm, so that windows grow. */
    private long[] calm() {
        int e = random.nextInt(8) == 0 ? 1 : 0, n = 1 + random.nextInt(random.nextInt(20) == 0 ? 50 : 2);
        if (random.nextInt(40) == 0) return harm(0);
        if (random.nextInt(40) == 0) return harm(1);
        if (random.nextInt(6) == 0) return pair("tick(" + n + ")", x.tick(n), y.tick(n));
        return pair("give(" + e + ", 3, 9L)", x.give(e, 3, 9L), y.give(e, 3, 9L));
    }

    /** Right packets of many CHANGES and few ticks, so that CONFIRMS gather. */
    private long[] busy() {
        int e = random.nextInt(2);
        if (random.nextInt(6) == 0) return pair("tick(1)", x.tick(1), y.tick(1));
        List<Integer> b = new ArrayList<>(), o = new ArrayList<>();
        for (int i = random.nextInt(8); i > 0; i--) agree(o, random.nextBoolean() ? 2 : 4, e);
        b.addAll(List.of(3, o.size(), 0, 0));
        Model.six(b, Model.around(y.number(e, 2) + 1 + random.nextInt(9)));
        Model.six(b, Model.around(y.number(e, 0) - 1));
        b.addAll(o);
        return feedAndPut(b, e);
    }

    private long[] wish() {
        int e = end(), f = random.nextInt(20) == 0 ? random.nextInt(8) - 1 : 1 + random.nextInt(4);
        boolean own = random.nextBoolean();
        int n = f < 3 ? 1 : 1 + random.nextInt(2);
        int[] fit = {16 + random.nextInt(240), 1 + random.nextInt(20), n == 1 ? random.nextInt(2) : random.nextBoolean() ? 1 : 256,
            n == 1 ? 1 + random.nextInt(2) : random.nextBoolean() ? 0x102 : 0x201};
        int values = random.nextInt(8) == 0 || f < 1 || f > 4 ? random.nextInt(70000) : fit[f - 1];
        if (random.nextInt(10) == 0) n = random.nextInt(6) - 1;
        return pair("want(" + e + ", " + f + ", " + own + ", " + n + ", " + values + ")",
            x.want(e, f, own, n, values), y.want(e, f, own, n, values));
    }

    private long[] harm(int what) {
        int i = index();
        if (what == 0) return pair("lose(" + i + ")", x.lose(i), y.lose(i));
        int n = random.nextInt(8) == 0 ? random.nextInt(60) - 4 : random.nextInt(6);
        if (what == 1) return pair("hold(" + i + ", " + n + ")", x.hold(i, n), y.hold(i, n));
        if (what == 2 || what > 4) return pair("repeat(" + i + ", " + n + ")", x.repeat(i, n), y.repeat(i, n));
        int k = random.nextInt(45) - 2, mask = random.nextInt(1000) - 200;
        return pair("alter(" + i + ", " + k + ", " + mask + ")", x.alter(i, k, mask), y.alter(i, k, mask));
    }

    /** A packet that is nearly right, or right, fed and put. */
    private long[] craft() {
        int e = end(), to = e & 1;
        List<Integer> b = new ArrayList<>();
        int kind = random.nextInt(30) == 0 ? random.nextInt(256) : random.nextInt(10);
        List<Integer> o = new ArrayList<>();
        int options = random.nextInt(3) == 0 ? 0 : random.nextInt(random.nextInt(6) == 0 ? 16 : 4);
        for (int i = 0; i < options; i++) option(o, to);
        while (o.size() > 130) o.remove(o.size() - 1);
        if (kind == 2 && random.nextInt(20) > 0) o.clear();
        b.add(kind);
        b.add(random.nextInt(40) == 0 ? random.nextInt(256) : o.size());
        b.add(random.nextInt(256));
        b.add(random.nextInt(256));
        long high = y.number(to, 2), next = y.number(1 - to, 0);
        long number = random.nextInt(3) > 0 ? next + random.nextInt(3) : high + random.nextInt(140) - 50;
        Model.six(b, Model.around(random.nextInt(30) == 0 ? random.nextLong() : number));
        if (kind != 0 && kind != 2) {
            long ack = y.number(to, 0) - 1 - (random.nextInt(3) == 0 ? random.nextInt(110) - 4 : random.nextInt(3));
            Model.six(b, Model.around(random.nextInt(30) == 0 ? random.nextLong() : ack));
        }
        if (kind == 7) b.add(random.nextInt(256));
        b.addAll(o);
        int data = kind == 2 || kind == 4 ? random.nextInt(42) : random.nextInt(40) == 0 ? 1 : 0;
        for (int i = 0; i < data; i++) b.add(random.nextInt(256));
        while (b.size() > 220) b.remove(b.size() - 1);
        if ((kind == 5 || kind == 6 || kind == 7) && random.nextInt(4) > 0) b.set(0, 3 + 5 * random.nextInt(2));
        return feedAndPut(b, e);
    }

    private long[] feedAndPut(List<Integer> b, int e) {
        int size = b.size();
        while (b.size() % 20 != 0) b.add(random.nextInt(256));
        for (int i = 0; i < b.size(); i += 20) {
            int[] w = new int[5];
            for (int k = 0; k < 20; k++) w[k / 4] = w[k / 4] << 8 | b.get(i + k);
            long[] fed = pair("feed(" + w[0] + ", " + w[1] + ", " + w[2] + ", " + w[3] + ", " + w[4] + ")",
                x.feed(w[0], w[1], w[2], w[3], w[4]), y.feed(w[0], w[1], w[2], w[3], w[4]));
            log.add(last);
            if (fed[0] != fed[1]) return fed;
        }
        int n = random.nextInt(30) == 0 ? random.nextInt(240) - 4 : size;
        boolean right = random.nextInt(30) > 0;
        return pair("put(" + e + ", " + n + ", " + right + ")", x.put(e, n, right), y.put(e, n, right));
    }

    private void option(List<Integer> o, int to) {
        int r = random.nextInt(mood == 1 ? 60 : 24);
        if (r == 0) {
            o.add(random.nextInt(3));
        } else if (r == 1) {
            o.add(1);
            o.add(random.nextInt(9));
        } else if (r == 2) {
            o.add(random.nextInt(10));
            o.add(random.nextInt(9));
            for (int i = random.nextInt(7); i > 0; i--) o.add(random.nextInt(4));
        } else if (r == 3) {
            int n = random.nextInt(5);
            o.add(7 + random.nextInt(200));
            o.add(2 + n);
            for (int i = 0; i < n; i++) o.add(random.nextInt(256));
        } else if (r % 3 == 0) {
            int n = random.nextInt(8) == 0 ? random.nextInt(43) : 1 + random.nextInt(6);
            o.add(6);
            o.add(2 + n);
            for (int i = 0; i < n; i++) o.add((random.nextBoolean() ? 0 : 192) + random.nextInt(random.nextInt(4) == 0 ? 64 : 3));
        } else if (r % 3 == 1) {
            agree(o, random.nextBoolean() ? 2 : 4, to);
        } else {
            agree(o, random.nextBoolean() ? 3 : 5, to);
        }
    }

    private void agree(List<Integer> o, int option, int to) {
        if (random.nextInt(3) == 0) o.add(1);
        int f = random.nextInt(12) == 0 ? random.nextInt(256) : 1 + random.nextInt(4);
        List<Integer> list = new ArrayList<>();
        int n = f < 3 ? 1 : 1 + random.nextInt(2);
        if (random.nextInt(12) == 0) n = 1 + random.nextInt(3);
        for (int i = 0; i < n; i++) {
            list.add(f == 1 ? 10 + random.nextInt(246) : f == 2 ? random.nextInt(22) : f == 3 ? random.nextInt(2) : 1 + random.nextInt(2));
        }
        boolean confirm = option == 3 || option == 5;
        int value = 0;
        if (confirm && f >= 1 && f <= 4) {
            Model.Trait t = (option == 5 ? y.sides[to].own : y.sides[to].others).get(f);
            value = random.nextInt(8) == 0 ? random.nextInt(4) : f < 3 ? t.list.get(0) : y.sides[to].reconcile(t, list);
            if (f < 3 && random.nextBoolean()) list.clear();
            if (random.nextInt(12) == 0) list.clear();
        }
        boolean empty = confirm && random.nextInt(8) == 0;
        o.add(option);
        o.add(empty ? 3 : (confirm ? 4 : 3) + list.size());
        o.add(f);
        if (empty) return;
        if (confirm) o.add(value);
        o.addAll(list);
    }

    private String differ(String what, long a, long b) {
        return a == b ? null : what + " is " + a + ", model " + b;
    }

    private String compare() {
        String f = differ("way()", x.way(), y.way());
        for (int i = 0; i < y.way() && f == null; i++) {
            for (int w = 0; w < 3 && f == null; w++) f = differ("packet(" + i + ", " + w + ")", x.packet(i, w), y.packet(i, w));
            for (int k = 0; k <= y.packet(i, 2) && f == null; k++) {
                f = differ("octet(" + i + ", " + k + ")", x.octet(i, k), y.octet(i, k));
            }
        }
        for (int e = -1; e < 3 && f == null; e++) f = compareEnd(e);
        return f;
    }

    private String compareEnd(int e) {
        String f = differ("state(" + e + ")", x.state(e), y.state(e));
        if (e == 0 || e == 1) states[y.state(e)]++;
        for (int w = -1; w < 7 && f == null; w++) f = differ("number(" + e + ", " + w + ")", x.number(e, w), y.number(e, w));
        for (int w = -1; w < 17 && f == null; w++) {
            f = differ("count(" + e + ", " + w + ")", x.count(e, w), y.count(e, w));
            if (w >= 0 && w < 16) reached[w] = Math.max(reached[w], y.count(e, w));
        }
        for (int q = 0; q < 12 && f == null; q++) {
            for (int w = -1; w < 7 && f == null; w++) {
                f = differ("feature(" + e + ", " + q / 2 + ", " + (q % 2 == 1) + ", " + w + ")",
                    x.feature(e, q / 2, q % 2 == 1, w), y.feature(e, q / 2, q % 2 == 1, w));
            }
        }
        int all = y.count(e, 11);
        for (int i = Math.max(-1, all - 42); i <= all && f == null; i++) {
            int size = y.got(e, i, -1);
            for (int k = -2; k <= Math.max(1, size) && f == null; k++) {
                f = differ("got(" + e + ", " + i + ", " + k + ")", x.got(e, i, k), y.got(e, i, k));
            }
        }
        for (int d = -3; d < 260 && f == null; d++) {
            long h = y.number(e, 2) - d, n = y.number(e, 0) - d;
            f = differ("seen(" + e + ", " + h + ")", x.seen(e, h), y.seen(e, h));
            if (f == null) f = differ("sent(" + e + ", " + n + ")", x.sent(e, n), y.sent(e, n));
        }
        return f;
    }
}
