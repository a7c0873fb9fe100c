import java.util.ArrayList;
import java.util.Arrays;
import java.util.HashMap;
import java.util.HashSet;
import java.util.List;
import java.util.Map;
import java.util.Set;
import java.util.TreeMap;

/**
 * The document once more, written slowly and with the Java library: sets of numbers instead of rings,
 * fresh arrays instead of rows that are used again. ModelTest holds FlowTalk against it.
 */
final class Model {
    static final long ALL = 1L << 48;
    static final int UNKNOWN = -101, OUTSIDE = -102, STATE = -103, ROOM = -104;

    static final class Parcel {
        int[] b;
        int to;
        int due;

        Parcel(int[] b, int to, int due) {
            this.b = b;
            this.to = to;
            this.due = due;
        }
    }

    static final class Trait {
        int value;
        List<Integer> list;
        boolean changing;
        boolean fresh;
        Long latest;
    }

    final class Side {
        final int me;
        int state;
        long next, first;
        Long high, met, base, recover;
        Set<Long> got = new HashSet<>();
        TreeMap<Integer, Trait> own = new TreeMap<>(), others = new TreeMap<>();
        List<int[]> confirms = new ArrayList<>();
        Map<Long, Integer> sent = new HashMap<>();
        Map<Long, Long> vectors = new HashMap<>();
        int cwnd, edge, rto, grown, clock;
        List<int[]> toSend = new ArrayList<>();
        List<int[]> delivered = new ArrayList<>();
        int sends, comes, bad, out, again, codeSent = -1, codeHeard = -1;
        int began, lastSaid, said, lastSync = -1, lastOptions = -1000;
        int dataCame, dataSince;

        Side(int me, long next) {
            this.me = me;
            this.next = around(next);
            fresh();
        }

        void fresh() {
            first = next;
            high = null;
            met = null;
            base = null;
            recover = null;
            got.clear();
            confirms.clear();
            sent.clear();
            vectors.clear();
            toSend.clear();
            cwnd = 3;
            edge = 64;
            rto = 8;
            grown = 0;
            dataCame = 0;
            for (TreeMap<Integer, Trait> m : List.of(own, others)) {
                m.clear();
                m.put(1, trait(100, 100));
                m.put(2, trait(2, 2));
                m.put(3, trait(1, 1, 0));
                m.put(4, trait(1, 1, 2));
            }
        }

        Trait trait(int value, Integer... list) {
            Trait t = new Trait();
            t.value = value;
            t.list = Arrays.asList(list);
            return t;
        }

        long ackNow() {
            return high == null ? 0 : high;
        }

        int pipe() {
            return (int) sent.values().stream().filter(s -> s == 1).count();
        }

        List<Trait> traits() {
            List<Trait> all = new ArrayList<>(own.values());
            all.addAll(others.values());
            return all;
        }

        int changing() {
            return (int) traits().stream().filter(t -> t.changing).count();
        }

        void becomes(int s) {
            state = s;
            began = time;
        }

        // ---- sending

        void send(int kind, long ack, int code) {
            List<Integer> o = new ArrayList<>();
            Long vectorOf = null;
            if (kind != 2 && kind != 7) {
                vectorOf = writeOptions(kind, o);
                lastOptions = time;
                for (Trait t : traits()) t.fresh = false;
            }
            List<Integer> p = new ArrayList<>(List.of(kind, o.size(), 0, 0));
            six(p, next);
            if (kind != 0 && kind != 2) six(p, ack);
            if (kind == 7) {
                p.add(code);
                codeSent = code;
            }
            p.addAll(o);
            boolean data = kind == 2 || kind == 4;
            if (data) {
                if (pipe() == 0) clock = time;
                for (int b : toSend.remove(0)) p.add(b);
            }
            sent.put(next, data ? 1 : 0);
            if (vectorOf != null) vectors.put(next, vectorOf);
            next = around(next + 1);
            sent.keySet().removeIf(n -> around(next - n) >= 256);
            sends++;
            if (kind == 3 || kind == 4) dataCame = 0;
            if (kind == 8) lastSync = time;
            int[] b = p.stream().mapToInt(x -> x).toArray();
            int c = check(b);
            b[2] = c / 256;
            b[3] = c % 256;
            if (way.size() < 60) way.add(new Parcel(b, 1 - me, time + delay));
        }

        Long writeOptions(int kind, List<Integer> o) {
            while (!confirms.isEmpty()) {
                if (o.size() + confirms.get(0).length > 120) return null;
                for (int b : confirms.remove(0)) o.add(b);
            }
            for (boolean mine : new boolean[] {true, false}) {
                for (Map.Entry<Integer, Trait> e : (mine ? own : others).entrySet()) {
                    Trait t = e.getValue();
                    if (!t.changing) continue;
                    if (o.size() + 3 + t.list.size() > 120) return null;
                    o.add(mine ? 2 : 4);
                    o.add(3 + t.list.size());
                    o.add(e.getKey());
                    o.addAll(t.list);
                }
            }
            if ((kind != 3 && kind != 4) || own.get(3).value != 1 || high == null) return null;
            List<Integer> rows = new ArrayList<>();
            int last = -1, run = 0;
            for (int d = 0; d < 100; d++) {
                long n = around(high - d);
                if (before(n, met) || before(n, base)) break;
                int s = got.contains(n) ? 0 : 3;
                if (s == last && run < 64) {
                    run++;
                    rows.set(rows.size() - 1, s * 64 + run - 1);
                } else {
                    last = s;
                    run = 1;
                    rows.add(s * 64);
                }
            }
            if (rows.size() > 40) rows = rows.subList(0, 40);
            if (rows.isEmpty() || o.size() + 2 + rows.size() > 120) return null;
            o.add(6);
            o.add(2 + rows.size());
            o.addAll(rows);
            return high;
        }

        // ---- coming

        void come(int[] b) {
            comes++;
            if (!isAsTold(b)) {
                bad++;
                return;
            }
            int kind = b[0];
            long number = six(b, 4);
            boolean hasAck = kind != 0 && kind != 2;
            long ack = hasAck ? six(b, 10) : 0;
            boolean ackFits = hasAck && !before(ack, first) && around(next - 1 - ack) < own.get(1).value;
            if (state == 0 || state == 8) {
                if (kind != 7) send(7, ackNow(), 1);
            } else if (state == 1) {
                if (kind == 0) {
                    meet(number, 3);
                    if (hear(b, number)) send(1, ackNow(), 0);
                } else if (kind != 7) {
                    send(7, ackNow(), 1);
                }
            } else if (state == 2) {
                if (kind == 1 && ackFits) {
                    meet(number, 4);
                    if (hear(b, number)) send(3, ackNow(), 0);
                } else if (kind == 7) {
                    if (ackFits) {
                        becomes(0);
                        codeHeard = b[16];
                    }
                } else {
                    send(7, ackNow(), 2);
                }
            } else {
                comeLater(b, kind, number, hasAck, ack, ackFits);
            }
        }

        void meet(long number, int s) {
            met = number;
            high = number;
            base = number;
            got.clear();
            got.add(number);
            becomes(s);
        }

        void comeLater(int[] b, int kind, long number, boolean hasAck, long ack, boolean ackFits) {
            int w = others.get(1).value;
            boolean fits = !before(number, met) && around(number - (high + 1 - w / 4)) < w;
            if (!fits || (hasAck && !ackFits)) {
                out++;
                if (kind != 7 && kind != 8 && kind != 9) syncFor(number);
                return;
            }
            if (kind == 1) {
                if (state == 4) send(3, ackNow(), 0);
                else syncFor(number);
                return;
            }
            if ((kind == 0 && state != 3) || (kind == 5 && me == 1)) {
                syncFor(number);
                return;
            }
            if (got.contains(number)) {
                again++;
                return;
            }
            if (after(number, high)) high = number;
            got.add(number);
            got.removeIf(n -> around(high - n) >= 256);
            if (!hear(b, number)) return;
            if (hasAck && kind != 8 && kind != 9) told(b, ack);
            if (state == 3 && kind != 0) becomes(5);
            else if (state == 4 && kind != 8) becomes(5);
            if (kind == 2 || kind == 4) {
                delivered.add(Arrays.copyOfRange(b, start(b) + b[1], b.length));
                if (dataCame == 0) dataSince = time;
                dataCame++;
            }
            if (kind == 0) send(1, ackNow(), 0);
            if (kind == 5 && state != 7) {
                becomes(7);
                said = 1;
                lastSaid = time;
                send(6, ackNow(), 0);
            }
            if (kind == 6) {
                send(7, ackNow(), 0);
                becomes(0);
            }
            if (kind == 7) {
                codeHeard = b[16];
                becomes(8);
            }
            if (kind == 8) send(9, number, 0);
        }

        void syncFor(long number) {
            if (lastSync != time) send(8, number, 0);
        }

        boolean hear(int[] b, long number) {
            int code = hearOptions(Arrays.copyOfRange(b, start(b), start(b) + b[1]), number);
            if (code == 0) return true;
            send(7, ackNow(), code);
            becomes(0);
            return false;
        }

        int hearOptions(int[] o, long number) {
            int i = 0;
            boolean must = false;
            while (i < o.length) {
                if (o[i] == 0) {
                    must = false;
                    i++;
                } else if (o[i] == 1) {
                    if (must) return 3;
                    must = true;
                    i++;
                } else {
                    if (i + 1 >= o.length || o[i + 1] < 2 || i + o[i + 1] > o.length) return 3;
                    int[] body = Arrays.copyOfRange(o, i + 2, i + o[i + 1]);
                    if (o[i] > 6 && must) return 3;
                    must = false;
                    if (!contentsRight(o[i], body)) return 3;
                    if (o[i] == 2 || o[i] == 4) change(o[i] == 4, body, number);
                    if ((o[i] == 3 || o[i] == 5) && !confirm(o[i] == 5, body, number)) return 4;
                    i += o[i + 1];
                }
            }
            return must ? 3 : 0;
        }

        boolean contentsRight(int option, int[] body) {
            if (option == 2 || option == 4) return body.length >= 2 && body.length <= 4;
            if (option == 3 || option == 5) return body.length >= 1 && body.length <= 5;
            if (option != 6) return true;
            if (body.length < 1 || body.length > 40) return false;
            for (int r : body) if (r / 64 != 0 && r / 64 != 3) return false;
            return true;
        }

        void change(boolean ofMine, int[] body, long number) {
            int id = body[0];
            int reply = ofMine ? 3 : 5;
            Trait t = (ofMine ? own : others).get(id);
            List<Integer> list = listOf(body, 1);
            if (t == null) {
                dueConfirm(reply, 3, id);
                return;
            }
            if (t.latest != null && before(number, t.latest)) return;
            t.latest = number;
            if (!listRight(id, list) || (ofMine && id < 3)) {
                dueConfirm(reply, 3, id);
            } else if (id < 3) {
                t.value = list.get(0);
                dueConfirm(reply, 4, id, t.value);
            } else {
                t.value = reconcile(t, list);
                int[] c = new int[4 + t.list.size()];
                c[0] = reply;
                c[1] = c.length;
                c[2] = id;
                c[3] = t.value;
                for (int i = 0; i < t.list.size(); i++) c[4 + i] = t.list.get(i);
                dueConfirm(c);
            }
        }

        void dueConfirm(int... c) {
            if (confirms.size() < 12) confirms.add(c);
        }

        boolean confirm(boolean ofMine, int[] body, long number) {
            int id = body[0];
            Trait t = (ofMine ? own : others).get(id);
            if (t == null) return true;
            if (t.latest != null && before(number, t.latest)) return true;
            t.latest = number;
            if (!t.changing) return true;
            if (body.length == 1) {
                t.changing = false;
                return true;
            }
            if (id < 3) {
                if (body[1] == t.list.get(0)) {
                    t.value = body[1];
                    t.changing = false;
                }
                return true;
            }
            List<Integer> list = listOf(body, 2);
            if (!listRight(id, list) || body[1] != reconcile(t, list)) return false;
            t.value = body[1];
            t.changing = false;
            return true;
        }

        int reconcile(Trait t, List<Integer> told) {
            List<Integer> lead = me == 1 ? t.list : told, other = me == 1 ? told : t.list;
            for (int v : lead) if (other.contains(v)) return v;
            return t.value;
        }

        void told(int[] b, long ack) {
            Set<Long> numbers = new HashSet<>();
            numbers.add(ack);
            int[] o = Arrays.copyOfRange(b, start(b), start(b) + b[1]);
            for (int i = 0; i < o.length; i += o[i] < 2 ? 1 : o[i + 1]) {
                if (o[i] != 6) continue;
                long n = ack;
                for (int r = i + 2; r < i + o[i + 1]; r++) {
                    for (int k = 0; k <= o[r] % 64; k++) {
                        if (o[r] < 64) numbers.add(n);
                        n = around(n - 1);
                    }
                }
            }
            for (long n : numbers) {
                Long h = vectors.get(n);
                if (h != null && after(around(h + 1), base)) base = around(h + 1);
                Integer s = sent.get(n);
                if (s == null) continue;
                if (s == 3) sent.put(n, 2);
                if (s != 1) continue;
                sent.put(n, 2);
                if (cwnd < edge) {
                    cwnd++;
                } else {
                    grown++;
                    if (grown == cwnd) {
                        cwnd++;
                        grown = 0;
                    }
                }
                cwnd = Math.min(cwnd, 60);
                rto = 8;
                clock = time;
            }
            for (int d = 255; d >= 1; d--) {
                long n = around(next - d);
                if (sent.getOrDefault(n, 0) != 1) continue;
                int behind = 0;
                for (int k = 1; k < d; k++) if (sent.getOrDefault(around(n + k), 0) == 2) behind++;
                if (behind < 3) continue;
                sent.put(n, 3);
                if (recover == null || after(n, recover)) {
                    edge = Math.max(2, cwnd / 2);
                    cwnd = Math.max(1, cwnd / 2);
                    grown = 0;
                    recover = around(next - 1);
                }
            }
        }

        // ---- ticks

        void tick() {
            if (state == 2 && time - lastSaid == new int[] {4, 8, 16, 32, 64}[said - 1]) {
                if (said == 5) {
                    becomes(0);
                } else {
                    said++;
                    lastSaid = time;
                    send(0, 0, 0);
                }
            } else if ((state == 3 || state == 4) && time - began == 40) {
                send(7, ackNow(), 5);
                becomes(0);
            } else if (state == 4 && time > began && (time - began) % 4 == 0) {
                send(8, ackNow(), 0);
            } else if ((state == 6 || state == 7) && time - lastSaid == 6) {
                if (said == 5) {
                    send(7, ackNow(), 5);
                    becomes(0);
                } else {
                    said++;
                    lastSaid = time;
                    send(state == 6 ? 5 : 6, ackNow(), 0);
                }
            } else if (state == 8 && time - began == 12) {
                becomes(0);
            }
            if (state == 4 || state == 5) {
                if (pipe() > 0 && time - clock >= rto) {
                    sent.replaceAll((n, s) -> s == 1 ? 3 : s);
                    edge = Math.max(2, cwnd / 2);
                    cwnd = 1;
                    grown = 0;
                    recover = around(next - 1);
                    rto = Math.min(64, rto * 2);
                    clock = time;
                }
                int went = 0;
                while (!toSend.isEmpty() && went < 4) {
                    if (own.get(4).value == 1 ? pipe() >= cwnd : went >= 2) break;
                    send(state == 4 || somethingDue() ? 4 : 2, ackNow(), 0);
                    went++;
                }
            }
            if (state >= 4 && state <= 7 && somethingDue()) send(3, ackNow(), 0);
        }

        boolean somethingDue() {
            if (dataCame >= others.get(2).value) return true;
            if (dataCame > 0 && time - dataSince >= 2) return true;
            if (!confirms.isEmpty()) return true;
            for (Trait t : traits()) if (t.changing && (t.fresh || time - lastOptions >= 4)) return true;
            return false;
        }
    }

    final Side[] sides = new Side[2];
    final List<Parcel> way = new ArrayList<>();
    final List<Integer> tape = new ArrayList<>();
    final int delay;
    int time;

    Model(long first, long other, int d) {
        delay = 1 + ((d % 5) + 5) % 5;
        sides[0] = new Side(0, first);
        sides[1] = new Side(1, other);
    }

    static long around(long n) {
        return ((n % ALL) + ALL) % ALL;
    }

    static boolean after(long a, long b) {
        long d = around(a - b);
        return d >= 1 && d <= ALL / 2 - 1;
    }

    static boolean before(long a, long b) {
        return after(b, a);
    }

    static void six(List<Integer> p, long n) {
        for (int i = 5; i >= 0; i--) p.add((int) (n >> 8 * i & 255));
    }

    static long six(int[] b, int at) {
        long n = 0;
        for (int i = 0; i < 6; i++) n = n * 256 + b[at + i];
        return n;
    }

    static int start(int[] b) {
        return b[0] == 0 || b[0] == 2 ? 10 : b[0] == 7 ? 17 : 16;
    }

    static int check(int[] bytes) {
        int[] b = Arrays.copyOf(bytes, bytes.length + bytes.length % 2);
        b[2] = 0;
        b[3] = 0;
        long sum = 0;
        for (int i = 0; i < b.length; i += 2) sum += b[i] * 256 + b[i + 1];
        while (sum > 65535) sum = sum % 65536 + sum / 65536;
        return (int) (65535 - sum);
    }

    static boolean isAsTold(int[] b) {
        if (b.length < 10 || b[0] > 9 || b[1] > 120 || (b[0] == 2 && b[1] != 0)) return false;
        int rest = b.length - start(b) - b[1];
        if (rest < 0 || rest > (b[0] == 2 || b[0] == 4 ? 40 : 0)) return false;
        return check(b) == b[2] * 256 + b[3];
    }

    static List<Integer> listOf(int[] body, int from) {
        List<Integer> list = new ArrayList<>();
        for (int i = from; i < body.length; i++) list.add(body[i]);
        return list;
    }

    static boolean listRight(int id, List<Integer> list) {
        if (list.isEmpty() || (id < 3 && list.size() != 1)) return false;
        if (new HashSet<>(list).size() != list.size()) return false;
        for (int v : list) {
            boolean may = id == 1 ? v >= 16 && v <= 255 : id == 2 ? v >= 1 && v <= 20 : id == 3 ? v <= 1 : v == 1 || v == 2;
            if (!may) return false;
        }
        return true;
    }

    boolean noEnd(int end) {
        return end != 0 && end != 1;
    }

    boolean noPacket(int i) {
        return i < 0 || i >= way.size();
    }

    int open() {
        if (sides[0].state != 0) return STATE;
        sides[0].fresh();
        sides[0].becomes(2);
        sides[0].said = 1;
        sides[0].lastSaid = time;
        sides[0].send(0, 0, 0);
        return 1;
    }

    int listen() {
        if (sides[1].state != 0) return STATE;
        sides[1].fresh();
        sides[1].becomes(1);
        return 1;
    }

    int close(int end) {
        if (noEnd(end)) return UNKNOWN;
        Side s = sides[end];
        if (s.state == 1) {
            s.becomes(0);
        } else if (s.state == 2 || s.state == 3) {
            s.send(7, s.ackNow(), 0);
            s.becomes(0);
        } else if (s.state == 4 || s.state == 5) {
            s.send(end == 0 ? 6 : 5, s.ackNow(), 0);
            s.becomes(end == 0 ? 7 : 6);
            s.said = 1;
            s.lastSaid = time;
            s.toSend.clear();
        } else {
            return STATE;
        }
        return s.state;
    }

    int give(int end, int size, long v) {
        if (noEnd(end)) return UNKNOWN;
        if (size < 0 || size > 40) return OUTSIDE;
        Side s = sides[end];
        if (s.state < 2 || s.state > 5) return STATE;
        if (s.toSend.size() == 20) return ROOM;
        int[] d = new int[size];
        for (int i = 0; i < size; i++) d[i] = (int) (((v >>> 8 * (i % 8)) + i) & 255);
        s.toSend.add(d);
        return s.toSend.size();
    }

    int want(int end, int feature, boolean own, int n, int values) {
        if (noEnd(end) || feature < 1 || feature > 4) return UNKNOWN;
        if (n < 1 || n > 3) return OUTSIDE;
        List<Integer> list = new ArrayList<>();
        for (int i = 0; i < n; i++) list.add(values >>> 8 * i & 255);
        if (!listRight(feature, list) || (!own && feature < 3)) return OUTSIDE;
        Side s = sides[end];
        if (s.state == 0 || s.state == 8) return STATE;
        Trait t = (own ? s.own : s.others).get(feature);
        t.list = list;
        t.changing = true;
        t.fresh = true;
        return s.changing();
    }

    int tick(int n) {
        if (n < 1 || n > 50) return OUTSIDE;
        for (int i = 0; i < n; i++) {
            time++;
            List<Parcel> due = new ArrayList<>();
            for (Parcel p : way) if (p.due <= time) due.add(p);
            for (Parcel p : due) {
                way.remove(p);
                sides[p.to].come(p.b);
            }
            sides[0].tick();
            sides[1].tick();
        }
        return time;
    }

    int lose(int i) {
        if (noPacket(i)) return UNKNOWN;
        way.remove(i);
        return way.size();
    }

    int hold(int i, int n) {
        if (noPacket(i)) return UNKNOWN;
        if (n < 0 || n > 50) return OUTSIDE;
        return way.get(i).due += n;
    }

    int repeat(int i, int n) {
        if (noPacket(i)) return UNKNOWN;
        if (n < 0 || n > 50) return OUTSIDE;
        if (way.size() == 60) return ROOM;
        Parcel p = way.get(i);
        way.add(new Parcel(p.b.clone(), p.to, p.due + n));
        return way.size();
    }

    int alter(int i, int k, int mask) {
        if (octet(i, k) < 0) return UNKNOWN;
        return way.get(i).b[k] ^= mask & 255;
    }

    int feed(int a, int b, int c, int d, int e) {
        if (tape.size() + 20 > 220) return ROOM;
        for (int w : new int[] {a, b, c, d, e}) {
            for (int k = 3; k >= 0; k--) tape.add(w >>> 8 * k & 255);
        }
        return tape.size();
    }

    int put(int end, int n, boolean right) {
        if (noEnd(end)) return UNKNOWN;
        if (n < 0 || n > tape.size()) return OUTSIDE;
        if (way.size() == 60) return ROOM;
        int[] b = tape.subList(0, n).stream().mapToInt(x -> x).toArray();
        if (right && n >= 4) {
            int c = check(b);
            b[2] = c / 256;
            b[3] = c % 256;
        }
        way.add(new Parcel(b, end, time + 1));
        tape.clear();
        return way.size();
    }

    int way() {
        return way.size();
    }

    int packet(int i, int what) {
        if (noPacket(i)) return UNKNOWN;
        Parcel p = way.get(i);
        return what == 0 ? p.to : what == 1 ? p.due : what == 2 ? p.b.length : OUTSIDE;
    }

    int octet(int i, int k) {
        if (noPacket(i) || k < 0 || k >= way.get(i).b.length) return UNKNOWN;
        return way.get(i).b[k];
    }

    int state(int end) {
        return noEnd(end) ? UNKNOWN : sides[end].state;
    }

    long number(int end, int what) {
        if (noEnd(end)) return UNKNOWN;
        Side s = sides[end];
        if (what == 0) return s.next;
        if (what == 1) return s.first;
        if (what < 0 || what > 5) return OUTSIDE;
        Long n = what == 2 ? s.high : what == 3 ? s.met : what == 4 ? s.base : s.recover;
        return n != null ? n : what == 5 ? -1 : 0;
    }

    int feature(int end, int feature, boolean own, int what) {
        if (noEnd(end) || feature < 1 || feature > 4) return UNKNOWN;
        Trait t = (own ? sides[end].own : sides[end].others).get(feature);
        if (what == 0) return t.value;
        if (what == 1) return t.changing ? 1 : 0;
        if (what == 2) return t.list.size();
        if (what < 0 || what > 5) return OUTSIDE;
        return what - 3 < t.list.size() ? t.list.get(what - 3) : -1;
    }

    int count(int end, int what) {
        if (noEnd(end)) return UNKNOWN;
        if (what < 0 || what > 15) return OUTSIDE;
        Side s = sides[end];
        return new int[] {s.pipe(), s.cwnd, s.edge, s.rto, s.grown, s.toSend.size(), s.sends, s.comes, s.bad, s.out,
            s.again, s.delivered.size(), s.changing(), s.confirms.size(), s.codeSent, s.codeHeard}[what];
    }

    int got(int end, int i, int k) {
        if (noEnd(end)) return UNKNOWN;
        List<int[]> all = sides[end].delivered;
        if (i < 0 || i >= all.size() || all.size() - i > 40) return UNKNOWN;
        int[] d = all.get(i);
        if (k == -1) return d.length;
        return k < 0 || k >= d.length ? UNKNOWN : d[k];
    }

    int seen(int end, long n) {
        if (noEnd(end)) return UNKNOWN;
        Side s = sides[end];
        if (s.high == null || around(s.high - around(n)) >= 256) return -1;
        return s.got.contains(around(n)) ? 1 : 0;
    }

    int sent(int end, long n) {
        if (noEnd(end)) return UNKNOWN;
        Side s = sides[end];
        long d = around(s.next - around(n));
        if (d == 0 || d >= 256 || before(around(n), s.first)) return -1;
        return s.sent.getOrDefault(around(n), 0);
    }
}
