import java.math.BigInteger;
import java.util.ArrayList;
import java.util.Arrays;
import java.util.HashSet;
import java.util.List;
import java.util.Set;
import java.util.TreeSet;

/**
 * The document once more, as slow and as plain as can be, and by other ways than the program:
 * sight is a ray with fractions that is thrown back inside the house, not a house folded along a line.
 */
final class Model {
    static final int UNKNOWN = -1, OUTSIDE = -2, STATE = -3, FULL = -4, NONE = -9;
    static final long LOST = Long.MIN_VALUE;

    // ---- fractions

    record Part(BigInteger over, BigInteger under) {
        static Part of(long over, long under) {
            return of(BigInteger.valueOf(over), BigInteger.valueOf(under));
        }

        static Part of(BigInteger over, BigInteger under) {
            BigInteger g = over.gcd(under);
            if (under.signum() < 0) g = g.negate();
            return new Part(over.divide(g), under.divide(g));
        }

        Part plus(Part o) {
            return of(over.multiply(o.under).add(o.over.multiply(under)), under.multiply(o.under));
        }

        Part minus(Part o) {
            return plus(of(o.over.negate(), o.under));
        }

        Part times(Part o) {
            return of(over.multiply(o.over), under.multiply(o.under));
        }

        Part by(Part o) {
            return of(over.multiply(o.under), under.multiply(o.over));
        }

        int sign() {
            return over.signum();
        }

        int compare(Part o) {
            return minus(o).sign();
        }
    }

    // ---- houses

    static final class House {
        int w, h;
        int[] kind;
        boolean[] smeared;

        int rooms() {
            return 2 * w * h;
        }

        int sides() {
            return kind.length;
        }

        House like(int[] other) {
            House copy = new House();
            copy.w = w;
            copy.h = h;
            copy.kind = other;
            copy.smeared = new boolean[other.length];
            return copy;
        }

        boolean first(int room) {
            return room % 2 == 0;
        }

        int x(int room) {
            return room / 2 % w;
        }

        int y(int room) {
            return room / 2 / w;
        }

        int second(int x, int y) {
            return x < 0 || y < 0 ? NONE : 2 * (w * y + x) + 1;
        }

        int firstOne(int x, int y) {
            return x >= w || y >= h ? NONE : 2 * (w * y + x);
        }

        int behind(int room, int way) {
            int x = x(room), y = y(room);
            if (first(room)) return way == 2 ? second(x, y) : way == 1 ? second(x - 1, y) : second(x, y - 1);
            return way == 2 ? firstOne(x, y) : way == 1 ? firstOne(x + 1, y) : firstOne(x, y + 1);
        }

        int side(int room, int way) {
            int even = first(room) ? room : behind(room, way);
            if (even != NONE) return 3 * (even / 2) + (way == 2 ? 0 : way == 1 ? 1 : 2);
            return 3 * w * h + (way == 1 ? y(room) : h + x(room));
        }

        /** The rooms from which one is out by at most d open sides: all, for d as many as there are rooms. */
        Set<Integer> within(int d) {
            Set<Integer> out = new TreeSet<>();
            for (int k = 0; k < d; k++) {
                Set<Integer> more = new TreeSet<>(out);
                for (int room = 0; room < rooms(); room++) {
                    for (int way = 0; way < 3; way++) {
                        if (kind[side(room, way)] != 2) continue;
                        int b = behind(room, way);
                        if (b == NONE || out.contains(b)) more.add(room);
                    }
                }
                if (more.equals(out)) break;
                out = more;
            }
            return out;
        }

        boolean fair() {
            return within(rooms()).size() == rooms();
        }
    }

    record Seen(int ends, int crossings, int mirrors, int room, List<Integer> sides) {}

    /** A ray from the middle of a room, for n crossings, and no farther than most turns. */
    static Seen ray(House h, int room, int p, int q, int n, Part most) {
        int third = h.first(room) ? 1 : 2;
        Part u = Part.of(3 * h.x(room) + third, 3), v = Part.of(3 * h.y(room) + third, 3);
        Part du = Part.of(p, 3), dv = Part.of(q, 3);
        Part gone = Part.of(0, 1);
        int mirrors = 0;
        List<Integer> sides = new ArrayList<>();
        int now = room;
        for (int c = 0; c < n; c++) {
            int x = h.x(now), y = h.y(now);
            int one = h.first(now) ? 0 : 1;
            Part[] at = {v, u, u.plus(v)};
            Part[] speed = {dv, du, du.plus(dv)};
            Part[] wall = {Part.of(y + one, 1), Part.of(x + one, 1), Part.of(x + y + 1, 1)};
            Part best = null;
            int by = NONE;
            boolean post = false;
            for (int way = 0; way < 3; way++) {
                // outward: a first room lies above its lines of ways 0, 1 and below that of way 2, a second one otherwise
                boolean below = (way == 2) == h.first(now);
                if (speed[way].sign() != (below ? 1 : -1)) continue;
                Part t = wall[way].minus(at[way]).by(speed[way]);
                int later = best == null ? -1 : t.compare(best);
                if (later < 0) {
                    best = t;
                    by = way;
                    post = false;
                } else if (later == 0) {
                    post = true;
                }
            }
            if (most != null && gone.plus(best).compare(most) >= 0) return new Seen(2, c, mirrors, now, sides);
            if (post) return new Seen(0, c, mirrors, now, sides);
            gone = gone.plus(best);
            u = u.plus(du.times(best));
            v = v.plus(dv.times(best));
            int k = h.side(now, by);
            sides.add(k);
            if (h.kind[k] == 0) {
                mirrors++;
                Part a = du, b = dv, zero = Part.of(0, 1);
                du = by == 0 ? a.plus(b) : by == 1 ? zero.minus(a) : zero.minus(b);
                dv = by == 0 ? zero.minus(b) : by == 1 ? a.plus(b) : zero.minus(a);
                continue;
            }
            int next = h.behind(now, by);
            if (next == NONE) return new Seen(1, c + 1, mirrors, now, sides);
            now = next;
        }
        return new Seen(2, n, mirrors, now, sides);
    }

    static int imageIn(House h, int room, int p, int q) {
        int third = h.first(room) ? 1 : 2;
        int a = Math.floorMod(third + p, 3), b = Math.floorMod(third + q, 3);
        if (!(a == 1 && b == 1 || a == 2 && b == 2)) return NONE;
        Seen s = ray(h, room, p, q, 10000, Part.of(1, 1));
        return s.ends == 2 ? s.room : NONE;
    }

    // ---- walkers

    static final class Walker {
        int kind, house, room, way, went, ran, ticks;
        boolean out;
        List<Integer> log = new ArrayList<>();

        List<Integer> order(House h) {
            List<Integer> ways = new ArrayList<>();
            if (h.first(room)) ways.addAll(List.of((way + 1) % 3, (way + 2) % 3, way));
            else ways.addAll(List.of((way + 2) % 3, (way + 1) % 3, way));
            if (kind == 2) ways.sort((a, b) -> Long.compare(times(h, a), times(h, b)));
            return ways;
        }

        long times(House h, int way) {
            int k = h.side(room, way);
            return log.stream().filter(s -> s == k).count();
        }

        void tick(House h) {
            if (out) return;
            ticks++;
            for (int by : order(h)) {
                int k = h.side(room, by);
                if (h.kind[k] == 2) {
                    log.add(k);
                    went++;
                    way = by;
                    int b = h.behind(room, by);
                    if (b == NONE) out = true;
                    else room = b;
                    return;
                }
                if (kind > 0 && h.kind[k] == 1 && !h.smeared[k]) {
                    log.add(k);
                    ran++;
                    h.smeared[k] = true;
                    return;
                }
            }
        }
    }

    record Report(int house, int room, int p, int q, boolean saw) {}

    // ---- the state

    final List<House> houses = new ArrayList<>();
    final List<Report> reports = new ArrayList<>();
    final List<Walker> walkers = new ArrayList<>();
    final long[][] sheets = new long[4][];
    final int[] sorts = new int[4];
    long[] photo = new long[0];
    int trace = 0, fault = 0;

    House h(int h) {
        return h < 0 || h >= houses.size() ? null : houses.get(h);
    }

    static boolean noRoom(House h, int room) {
        return h == null || room < 0 || room >= h.rooms();
    }

    static boolean badTurn(long p, long q) {
        return Math.abs(p) > 60 || Math.abs(q) > 60 || p == 0 && q == 0;
    }

    static boolean not(long v, long least, long most) {
        return v < least || v > most;
    }

    int fault(int f) {
        fault = f;
        return -10 - f;
    }

    /** The fault of a row, or 0. */
    int rowFault(int k, int sort, int i, int n) {
        if (sheets[k] != null && sorts[k] != sort) return 2;
        if (sheets[k] == null) return 1;
        if (n < 0) return 4;
        return i < 0 || i > sheets[k].length || (long) i + n > sheets[k].length ? 3 : 0;
    }

    int house(int k, int sort, int i, int n) {
        fault = 0;
        if (not(k, 0, 3)) return UNKNOWN;
        if (not(sort, 0, 2)) return OUTSIDE;
        int f = rowFault(k, sort, i, n);
        if (f != 0) return fault(f);
        long[] text = Arrays.copyOfRange(sheets[k], i, i + n);
        // whatever can go on: each prefix is looked at among all texts of that W and H
        for (int at = 0; at < n; at++) if (!prefix(text, at + 1)) return -100 - at;
        if (n < 5 || n < 5 + count(text)) return -100 - n;
        if (houses.size() == 3) return FULL;
        House h = new House();
        h.w = (int) text[1] - 48;
        h.h = (int) text[3] - 48;
        h.kind = new int[count(text)];
        for (int s = 0; s < h.kind.length; s++) h.kind[s] = "mgo".indexOf((char) text[5 + s]);
        h.smeared = new boolean[h.kind.length];
        houses.add(h);
        return houses.size() - 1;
    }

    static int count(long[] text) {
        int w = (int) text[1] - 48, h = (int) text[3] - 48;
        return 3 * w * h + w + h;
    }

    static boolean prefix(long[] text, int n) {
        long c = text[n - 1];
        if (n == 1) return c == 119;
        if (n == 2) return c >= 49 && c <= 52;
        if (n == 3) return c == 104;
        if (n == 4) return c >= 49 && c <= 51;
        if (n == 5) return c == 59;
        return n <= 5 + count(text) && (c == 109 || c == 103 || c == 111);
    }

    int ofHouse(int k, int what) {
        House h = h(k);
        if (h == null) return UNKNOWN;
        if (not(what, 0, 7)) return OUTSIDE;
        if (what == 0) return h.w;
        if (what == 1) return h.h;
        if (what == 2) return h.rooms();
        if (what == 3) return h.sides();
        int n = 0;
        for (int s = 0; s < h.sides(); s++) if (what == 7 ? h.smeared[s] : h.kind[s] == what - 4) n++;
        return n;
    }

    int ofSide(int hh, int k, int what) {
        House h = h(hh);
        if (h == null || not(k, 0, h.sides() - 1)) return UNKNOWN;
        if (not(what, 0, 4)) return OUTSIDE;
        if (what == 0) return h.kind[k];
        if (what == 4) return h.smeared[k] ? 1 : 0;
        int even = NONE, odd = NONE, by = NONE;
        for (int room = 0; room < h.rooms(); room++) {
            for (int way = 0; way < 3; way++) {
                if (h.side(room, way) != k) continue;
                by = way;
                if (h.first(room)) even = room;
                else odd = room;
            }
        }
        return what == 1 ? by : what == 2 ? even : odd;
    }

    int side(int hh, int room, int way) {
        House h = h(hh);
        if (noRoom(h, room)) return UNKNOWN;
        return not(way, 0, 2) ? OUTSIDE : h.side(room, way);
    }

    int pane(int hh, int k, int v) {
        House h = h(hh);
        if (h == null || not(k, 0, h.sides() - 1)) return UNKNOWN;
        if (not(v, 0, 2)) return OUTSIDE;
        int was = h.kind[k];
        if (was != v) h.smeared[k] = false;
        h.kind[k] = v;
        return was;
    }

    int seen(int hh, int room, int p, int q, int n, int what) {
        House h = h(hh);
        if (noRoom(h, room)) return UNKNOWN;
        if (badTurn(p, q) || not(n, 1, 200) || not(what, 0, 3)) return OUTSIDE;
        Seen s = ray(h, room, p, q, n, null);
        return new int[] {s.ends, s.crossings, s.mirrors, s.room}[what];
    }

    int met(int hh, int room, int p, int q, int k) {
        House h = h(hh);
        if (noRoom(h, room)) return UNKNOWN;
        if (badTurn(p, q) || k < 0) return OUTSIDE;
        List<Integer> sides = ray(h, room, p, q, 200, null).sides;
        return k < sides.size() ? sides.get(k) : NONE;
    }

    int image(int hh, int room, int p, int q) {
        House h = h(hh);
        if (noRoom(h, room)) return UNKNOWN;
        return badTurn(p, q) ? OUTSIDE : imageIn(h, room, p, q);
    }

    int images(int hh, int room, int r, int g, int what) {
        House h = h(hh);
        if (noRoom(h, room) || noRoom(h, r)) return UNKNOWN;
        if (not(g, 1, 24) || not(what, 0, 2)) return OUTSIDE;
        List<int[]> all = new ArrayList<>();
        for (int p = -g; p <= g; p++) {
            for (int q = -g; q <= g; q++) {
                if ((p != 0 || q != 0) && imageIn(h, room, p, q) == r) all.add(new int[] {p * p + p * q + q * q, p, q});
            }
        }
        if (what == 0) return all.size();
        all.sort((a, b) -> Arrays.compare(a, b));
        return all.isEmpty() ? NONE : all.get(0)[what];
    }

    int report(int hh, int room, int p, int q, boolean saw) {
        if (noRoom(h(hh), room)) return UNKNOWN;
        if (badTurn(p, q)) return OUTSIDE;
        if (reports.size() == 12) return FULL;
        reports.add(new Report(hh, room, p, q, saw));
        return reports.size() - 1;
    }

    int spots(int hh) {
        House h = h(hh);
        if (h == null) return UNKNOWN;
        int set = 0;
        for (int room = 0; room < h.rooms(); room++) {
            boolean fits = true;
            for (Report r : reports) {
                if (r.house == hh && (imageIn(h, r.room, r.p, r.q) == room) != r.saw) fits = false;
            }
            if (fits) set += 1 << room;
        }
        return set;
    }

    int photograph(int k, int sort, int i, int n) {
        fault = 0;
        if (not(k, 0, 3)) return UNKNOWN;
        if (not(sort, 0, 2)) return OUTSIDE;
        int f = rowFault(k, sort, i, n);
        if (f != 0) return fault(f);
        if (!List.of(5, 10, 15, 20, 25, 30).contains(n)) return OUTSIDE;
        long[] row = Arrays.copyOfRange(sheets[k], i, i + n);
        for (int r = 0; r < n; r += 5) if (badTurn(row[r], row[r + 1])) return OUTSIDE;
        photo = row;
        return n / 5;
    }

    int taken(int hh) {
        House h = h(hh);
        if (h == null) return UNKNOWN;
        if (photo.length == 0) return STATE;
        int set = 0;
        for (int room = 0; room < h.rooms(); room++) {
            boolean so = true;
            for (int r = 0; r < photo.length; r += 5) {
                Seen s = ray(h, room, (int) photo[r], (int) photo[r + 1], 60, null);
                so = so && s.ends == photo[r + 2] && s.crossings == photo[r + 3] && s.mirrors == photo[r + 4];
            }
            if (so) set += 1 << room;
        }
        return set;
    }

    int walker(int kind, int hh, int room, int way) {
        if (noRoom(h(hh), room)) return UNKNOWN;
        if (not(kind, 0, 2) || not(way, 0, 2)) return OUTSIDE;
        if (walkers.size() == 8) return FULL;
        Walker w = new Walker();
        w.kind = kind;
        w.house = hh;
        w.room = room;
        w.way = way;
        walkers.add(w);
        return walkers.size() - 1;
    }

    int ticks(int hh, int n) {
        House h = h(hh);
        if (h == null) return UNKNOWN;
        if (not(n, 0, 200)) return OUTSIDE;
        for (int t = 0; t < n; t++) for (Walker w : walkers) if (w.house == hh) w.tick(h);
        return (int) walkers.stream().filter(w -> w.house == hh && !w.out).count();
    }

    Walker w(int w) {
        return w < 0 || w >= walkers.size() ? null : walkers.get(w);
    }

    int ofWalker(int ww, int what) {
        Walker w = w(ww);
        if (w == null) return UNKNOWN;
        if (not(what, 0, 6)) return OUTSIDE;
        return new int[] {w.kind, w.house, w.out ? NONE : w.room, w.way, w.went, w.ran, w.out ? w.ticks : NONE}[what];
    }

    int shut(int hh) {
        House h = h(hh);
        if (h == null) return UNKNOWN;
        for (int room = 0; room < h.rooms(); room++) if (!h.within(h.rooms()).contains(room)) return room;
        return NONE;
    }

    int far(int hh, int room) {
        House h = h(hh);
        if (noRoom(h, room)) return UNKNOWN;
        for (int d = 1; d <= h.rooms(); d++) if (h.within(d).contains(room)) return d;
        return NONE;
    }

    int opened(int hh, int d, int k) {
        House h = h(hh);
        if (h == null || not(k, -1, 1)) return UNKNOWN;
        if (not(d, 1, 30)) return OUTSIDE;
        List<Integer> set = openedSet(h, d);
        if (k == -1) return set == null ? NONE : set.size();
        return set == null || k >= set.size() ? NONE : set.get(k);
    }

    static List<Integer> openedSet(House h, int d) {
        if (near(h, d, List.of())) return List.of();
        for (int a = 0; a < h.sides(); a++) if (near(h, d, List.of(a))) return List.of(a);
        for (int a = 0; a < h.sides(); a++) {
            for (int b = a + 1; b < h.sides(); b++) if (near(h, d, List.of(a, b))) return List.of(a, b);
        }
        return null;
    }

    static boolean near(House h, int d, List<Integer> opened) {
        int[] kind = h.kind.clone();
        for (int k : opened) kind[k] = 2;
        return h.like(kind).within(d).size() == h.rooms();
    }

    int keeps(int hh, int room, int way, int k, int sort, int i, int n, int what) {
        fault = 0;
        House h = h(hh);
        if (not(k, 0, 3) || noRoom(h, room)) return UNKNOWN;
        if (not(sort, 0, 2) || not(way, 0, 2) || not(what, 0, 1)) return OUTSIDE;
        int f = rowFault(k, sort, i, n);
        if (f != 0) return fault(f);
        if (not(n, 1, 8)) return OUTSIDE;
        long[] told = Arrays.copyOfRange(sheets[k], i, i + n);
        for (long s : told) if (not(s, 0, h.sides() - 1)) return UNKNOWN;
        if (Arrays.stream(told).distinct().count() < n) return OUTSIDE;
        int best = NONE, by = NONE;
        for (int set = (1 << n) - 1; set >= 0; set--) {
            int[] kind = h.kind.clone();
            for (int s = 0; s < n; s++) kind[(int) told[s]] = 1 + (set >> s) % 2;
            House as = h.like(kind);
            if (!as.fair()) continue;
            Walker w = new Walker();
            w.room = room;
            w.way = way;
            for (int t = 0; t < 200; t++) w.tick(as);
            if (w.out && w.ticks >= best) {
                best = w.ticks;
                by = set;
            }
        }
        return what == 0 ? best : by;
    }

    /** The sides that are not alike; null, if a house is not as told. */
    static List<Integer> unlike(House a, House b) {
        if (a.w != b.w || a.h != b.h) return null;
        List<Integer> list = new ArrayList<>();
        for (int k = 0; k < a.sides(); k++) if (a.kind[k] != b.kind[k]) list.add(k);
        return list.size() > 10 ? null : list;
    }

    /** All rows, one by one: the first that is found is the first, as the sides are tried in order. */
    static final class Rows {
        final House a, b;
        final List<Integer> unlike;
        final Set<Integer> fair = new HashSet<>();
        long count = 0;
        List<Integer> first = null;

        Rows(House a, House b, List<Integer> unlike) {
            this.a = a;
            this.b = b;
            this.unlike = unlike;
            for (int set = 0; set < 1 << unlike.size(); set++) {
                int[] kind = a.kind.clone();
                for (int k = 0; k < unlike.size(); k++) if ((set >> k & 1) == 1) kind[unlike.get(k)] = b.kind[unlike.get(k)];
                if (a.like(kind).fair()) fair.add(set);
            }
            go(0, new ArrayList<>());
        }

        void go(int set, List<Integer> row) {
            if (!fair.contains(set)) return;
            if (row.size() == unlike.size()) {
                if (first == null) first = new ArrayList<>(row);
                count++;
                return;
            }
            for (int k = 0; k < unlike.size(); k++) {
                if ((set >> k & 1) == 1) continue;
                row.add(unlike.get(k));
                go(set | 1 << k, row);
                row.remove(row.size() - 1);
            }
        }
    }

    long changed(int hh, int other) {
        House a = h(hh), b = h(other);
        if (a == null || b == null || hh == other) return LOST;
        List<Integer> unlike = unlike(a, b);
        return unlike == null ? LOST : new Rows(a, b, unlike).count;
    }

    int change(int hh, int other, int k) {
        House a = h(hh), b = h(other);
        if (a == null || b == null || not(k, 0, 9)) return UNKNOWN;
        if (hh == other) return OUTSIDE;
        List<Integer> unlike = unlike(a, b);
        if (unlike == null) return STATE;
        List<Integer> first = new Rows(a, b, unlike).first;
        return first == null || k >= first.size() ? NONE : first.get(k);
    }

    int sheet(int k, int sort, int n) {
        fault = 0;
        if (not(k, 0, 3)) return UNKNOWN;
        if (not(sort, 0, 2) || n > 60) return OUTSIDE;
        if (n < 0) return fault(4);
        sheets[k] = new long[n];
        sorts[k] = sort;
        return 1;
    }

    int lose(int k) {
        if (not(k, 0, 3)) return UNKNOWN;
        int had = sheets[k] == null ? 0 : 1;
        sheets[k] = null;
        return had;
    }

    int put(int k, int i, int v) {
        fault = 0;
        if (not(k, 0, 3)) return UNKNOWN;
        if (sheets[k] == null) return fault(1);
        if (not(i, 0, sheets[k].length - 1)) return fault(3);
        int bits = 8 << sorts[k];
        long low = Math.floorMod((long) v, 1L << bits);
        sheets[k][i] = low >= 1L << bits - 1 ? low - (1L << bits) : low;
        return 1;
    }

    long cell(int k, int i, int sort) {
        fault = 0;
        if (not(k, 0, 3) || not(sort, 0, 2)) return LOST;
        int f = sheets[k] == null ? 1 : sorts[k] != sort ? 2 : not(i, 0, sheets[k].length - 1) ? 3 : 0;
        if (f == 0) return sheets[k][i];
        fault = f;
        return LOST;
    }

    int copy(int k, int i, int other, int j, int n) {
        fault = 0;
        if (not(k, 0, 3) || not(other, 0, 3)) return UNKNOWN;
        if (sheets[k] == null || sheets[other] == null) return fault(1);
        if (sorts[k] != sorts[other]) return fault(2);
        if (i < 0 || j < 0 || n < 0 || (long) i + n > sheets[k].length || (long) j + n > sheets[other].length) return fault(3);
        long[] as = Arrays.copyOfRange(sheets[k], i, i + n);
        for (int c = 0; c < n; c++) sheets[other][j + c] = as[c];
        return n;
    }

    private void body(int number) {
        trace = trace * 31 + number;
    }

    int tell(int ww) {
        Walker w = w(ww);
        if (w == null) return UNKNOWN;
        if (w.kind == 2) body(3);
        if (w.kind >= 1) body(2);
        body(1);
        if (w.kind == 2) body(1);
        return w.kind == 0 ? w.went : w.kind == 1 ? w.went + 100 : w.went + 100 + w.went;
    }

    int greet(int ww) {
        Walker w = w(ww);
        if (w == null) return UNKNOWN;
        body(w.kind == 2 ? 5 : 4);
        return w.kind == 2 ? 70 : ww;
    }

    int as(int ww, int kind) {
        fault = 0;
        Walker w = w(ww);
        if (w == null) return UNKNOWN;
        if (not(kind, 0, 2)) return OUTSIDE;
        return kind > w.kind ? fault(2) : 1;
    }

    int many(int what) {
        if (not(what, 0, 4)) return OUTSIDE;
        long outs = walkers.stream().filter(w -> w.out).count();
        return new int[] {houses.size(), reports.size(), photo.length / 5, walkers.size(), (int) outs}[what];
    }
}
