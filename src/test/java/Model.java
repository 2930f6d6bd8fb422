import java.math.BigInteger;
import java.util.ArrayList;
import java.util.HashMap;
import java.util.List;
import java.util.Map;
import java.util.TreeSet;

/** A second reading of the document, slow and by other means: every way to part is tried, numbers have no bound. */
public final class Model {
    private record Sighting(int kind, int station, int night, int minute, int bearing, int height, int colour, int lean) {
    }

    private record Watch(int station, int night, int hours, int clouded, int moonlit) {
    }

    private record Place(int x, int y, int height) {
    }

    private final List<int[]> stations = new ArrayList<>();
    private final List<int[]> clocks = new ArrayList<>();
    private final List<Sighting> sightings = new ArrayList<>();
    private final List<Watch> watches = new ArrayList<>();
    private final List<List<Integer>> shared = new ArrayList<>();
    private final Map<Integer, Object> sheets = new HashMap<>();
    private int thick = 20;
    private int speed = 20;

    private static boolean in(long v, long a, long b) {
        return a <= v && v <= b;
    }

    private boolean isStation(int s) {
        return in(s, 0, stations.size() - 1);
    }

    private boolean isSighting(int s) {
        return in(s, 0, sightings.size() - 1);
    }

    private static int sin(int d) {
        return (int) Math.round(1000 * Math.sin(Math.toRadians(d)));
    }

    private static int cos(int d) {
        return (int) Math.round(1000 * Math.cos(Math.toRadians(d)));
    }

    private static int tan(int d) {
        return (int) Math.round(1000 * Math.tan(Math.toRadians(d)));
    }

    public int station(int x, int y) {
        if (!in(x, 0, 2000) || !in(y, 0, 2000)) return -1;
        if (stations.size() == 8) return -3;
        stations.add(new int[] {x, y});
        clocks.add(new int[] {0, 0});
        return stations.size() - 1;
    }

    public int clock(int station, int low, int high) {
        if (!isStation(station) || low < -60 || high > 60 || low > high) return -1;
        clocks.set(station, new int[] {low, high});
        return 1;
    }

    private int add(Sighting s) {
        boolean good = isStation(s.station) && in(s.night, 0, 399) && in(s.minute, 0, 1439) && in(s.bearing, 0, 359)
            && in(s.height, 2, 88) && in(s.colour, 0, 4) && in(s.lean, -45, 45);
        if (!good) return -1;
        if (sightings.size() == 40) return -3;
        sightings.add(s);
        return sightings.size() - 1;
    }

    public int glow(int station, int night, int minute, int bearing, int height) {
        return add(new Sighting(0, station, night, minute, bearing, height, 0, 0));
    }

    public int arc(int station, int night, int minute, int bearing, int height, int colour) {
        return add(new Sighting(1, station, night, minute, bearing, height, colour, 0));
    }

    public int ray(int station, int night, int minute, int bearing, int height, int colour, int lean) {
        return add(new Sighting(2, station, night, minute, bearing, height, colour, lean));
    }

    private int begin(Sighting s) {
        return s.minute - clocks.get(s.station)[1];
    }

    private int end(Sighting s) {
        return s.minute - clocks.get(s.station)[0];
    }

    public int told(int sighting, int what) {
        if (!isSighting(sighting) || !in(what, 0, 7)) return -1001;
        Sighting s = sightings.get(sighting);
        return new int[] {s.kind, s.station, s.night, s.minute, s.bearing, s.height, begin(s), end(s)}[what];
    }

    public int colour(int sighting) {
        if (!isSighting(sighting)) return -1;
        return sightings.get(sighting).kind == 0 ? -12 : sightings.get(sighting).colour;
    }

    public int lean(int sighting) {
        if (!isSighting(sighting)) return -101;
        return sightings.get(sighting).kind < 2 ? -112 : sightings.get(sighting).lean;
    }

    public int table(int which, int d) {
        if (which == 0 && in(d, 0, 359)) return sin(d);
        if (which == 1 && in(d, 0, 359)) return cos(d);
        if (which == 2 && in(d, 1, 89)) return tan(d);
        return -100001;
    }

    public int thick(int n) {
        if (!in(n, 0, 200)) return -1;
        int was = thick;
        thick = n;
        return was;
    }

    private static BigInteger big(long v) {
        return BigInteger.valueOf(v);
    }

    /** x, y, height, ends, r, s; or null. */
    private int[] crossing(Sighting a, Sighting b) {
        if (a.station == b.station || a.kind == 0 || b.kind == 0) return null;
        int[] p = stations.get(a.station);
        int[] q = stations.get(b.station);
        long d = (long) sin(a.bearing) * cos(b.bearing) - (long) cos(a.bearing) * sin(b.bearing);
        if (in(d, -49999, 49999)) return null;
        BigInteger dx = big(q[0] - p[0]);
        BigInteger dy = big(q[1] - p[1]);
        BigInteger rr = dx.multiply(big(cos(b.bearing))).subtract(dy.multiply(big(sin(b.bearing))));
        BigInteger ss = dx.multiply(big(cos(a.bearing))).subtract(dy.multiply(big(sin(a.bearing))));
        long r = rr.multiply(big(1000)).divide(big(d)).longValueExact();
        long s = ss.multiply(big(1000)).divide(big(d)).longValueExact();
        if (!in(r, 1, 1500) || !in(s, 1, 1500)) return null;
        long up = r * tan(a.height) / 1000;
        long vp = s * tan(b.height) / 1000;
        if (!in(up - vp, -thick, thick)) return null;
        long[] all = {p[0] + r * sin(a.bearing) / 1000, p[1] + r * cos(a.bearing) / 1000, (up + vp) / 2,
            Math.max(r * tan(a.height - 1) / 1000, s * tan(b.height - 1) / 1000),
            Math.min(r * tan(a.height + 1) / 1000, s * tan(b.height + 1) / 1000), r, s};
        int[] answer = new int[7];
        for (int i = 0; i < 7; i++) answer[i] = Math.toIntExact(all[i]);
        return answer;
    }

    private boolean meet(Sighting a, Sighting b) {
        if (crossing(a, b) == null || a.night != b.night) return false;
        for (int t = begin(a); t <= end(a); t++) {
            if (in(t, begin(b), end(b))) return true;
        }
        return false;
    }

    public int meets(int a, int b) {
        if (!isSighting(a) || !isSighting(b) || a == b) return -1;
        Sighting s = sightings.get(a);
        Sighting t = sightings.get(b);
        if (s.kind == 0 || t.kind == 0) return -12;
        return meet(s, t) ? 2 : crossing(s, t) != null ? 1 : 0;
    }

    public int cross(int a, int b, int what) {
        if (!isSighting(a) || !isSighting(b) || a == b || !in(what, 0, 6)) return -100001;
        Sighting s = sightings.get(a);
        Sighting t = sightings.get(b);
        if (s.kind == 0 || t.kind == 0) return -100012;
        int[] c = crossing(s, t);
        return c == null ? -100004 : c[what];
    }

    /** The sightings of each curtain of a night; null, if there are too many. */
    private List<List<Integer>> parted(int night) {
        List<Integer> all = new ArrayList<>();
        for (int i = 0; i < sightings.size(); i++) {
            if (sightings.get(i).kind > 0 && sightings.get(i).night == night) all.add(i);
        }
        if (all.size() > 10) return null;
        boolean[][] meet = new boolean[all.size()][all.size()];
        for (int i = 0; i < all.size(); i++) {
            for (int j = i + 1; j < all.size(); j++) {
                meet[i][j] = meet(sightings.get(all.get(i)), sightings.get(all.get(j)));
            }
        }
        int[] best = {Integer.MAX_VALUE};
        List<List<Integer>> answer = new ArrayList<>();
        tryAll(all, meet, 0, new int[all.size()], 0, best, answer);
        return answer;
    }

    /** All growth strings in their order; the first with the fewest sets is kept. */
    private static void tryAll(List<Integer> all, boolean[][] meet, int i, int[] set, int sets, int[] best,
            List<List<Integer>> answer) {
        if (i == all.size()) {
            if (sets < best[0]) {
                best[0] = sets;
                answer.clear();
                for (int k = 0; k < sets; k++) answer.add(new ArrayList<>());
                for (int j = 0; j < i; j++) answer.get(set[j]).add(all.get(j));
            }
            return;
        }
        for (int k = 0; k <= sets; k++) {
            boolean fits = true;
            for (int j = 0; j < i; j++) fits &= set[j] != k || meet[j][i];
            if (fits) {
                set[i] = k;
                tryAll(all, meet, i + 1, set, Math.max(sets, k + 1), best, answer);
            }
        }
    }

    private int time(List<Integer> curtain) {
        int from = Integer.MIN_VALUE;
        int to = Integer.MAX_VALUE;
        for (int i : curtain) {
            from = Math.max(from, begin(sightings.get(i)));
            to = Math.min(to, end(sightings.get(i)));
        }
        return (from + to) >> 1;
    }

    private Place place(List<Integer> curtain) {
        int n = 0;
        int[] sum = new int[3];
        for (int i : curtain) {
            for (int j : curtain) {
                if (i < j) {
                    n++;
                    int[] c = crossing(sightings.get(i), sightings.get(j));
                    for (int w = 0; w < 3; w++) sum[w] += c[w];
                }
            }
        }
        return n == 0 ? null : new Place(sum[0] / n, sum[1] / n, sum[2] / n);
    }

    public int curtains(int night) {
        if (!in(night, 0, 399)) return -1;
        List<List<Integer>> sets = parted(night);
        return sets == null ? -3 : sets.size();
    }

    public int curtain(int night, int k, int what) {
        if (!in(night, 0, 399) || !in(what, 0, 5) || k < 0) return -100001;
        List<List<Integer>> sets = parted(night);
        if (sets == null) return -100003;
        if (k >= sets.size()) return -100001;
        List<Integer> set = sets.get(k);
        Place p = place(set);
        if (in(what, 2, 4) && p == null) return -100004;
        return what == 0 ? set.size() : what == 1 ? time(set) : what == 2 ? p.x : what == 3 ? p.y
            : what == 4 ? p.height : set.get(0);
    }

    public int curtainOf(int sighting) {
        if (!isSighting(sighting)) return -1;
        if (sightings.get(sighting).kind == 0) return -12;
        List<List<Integer>> sets = parted(sightings.get(sighting).night);
        if (sets == null) return -3;
        for (int k = 0; k < sets.size(); k++) {
            if (sets.get(k).contains(sighting)) return k;
        }
        throw new IllegalStateException();
    }

    public int speed(int v) {
        if (!in(v, 1, 60)) return -1;
        int was = speed;
        speed = v;
        return was;
    }

    private boolean follows(List<Integer> a, List<Integer> b) {
        Place p = place(a);
        Place q = place(b);
        if (p == null || q == null || time(b) <= time(a)) return false;
        long dx = p.x - q.x;
        long dy = p.y - q.y;
        long reach = (long) speed * (time(b) - time(a));
        return dx * dx + dy * dy <= reach * reach;
    }

    /** For each curtain its follower or the number of curtains, which stands for none and so comes last. */
    private int[] links(List<List<Integer>> sets) {
        int n = sets.size();
        boolean[][] can = new boolean[n][n];
        for (int a = 0; a < n; a++) {
            for (int b = 0; b < n; b++) can[a][b] = follows(sets.get(a), sets.get(b));
        }
        int[] best = null;
        int most = -1;
        List<int[]> all = new ArrayList<>();
        allLinks(can, 0, new int[n], all);
        for (int[] links : all) {
            int made = 0;
            for (int l : links) made += l < n ? 1 : 0;
            if (made > most) {
                most = made;
                best = links;
            }
        }
        return best;
    }

    private static void allLinks(boolean[][] can, int k, int[] links, List<int[]> all) {
        if (k == can.length) {
            all.add(links.clone());
            return;
        }
        for (int b = 0; b <= can.length; b++) {
            boolean free = b == can.length || can[k][b];
            for (int j = 0; j < k; j++) free &= b == can.length || links[j] != b;
            if (free) {
                links[k] = b;
                allLinks(can, k + 1, links, all);
            }
        }
    }

    public int ways(int night) {
        if (!in(night, 0, 399)) return -1;
        List<List<Integer>> sets = parted(night);
        if (sets == null) return -3;
        int[] links = links(sets);
        int beginnings = 0;
        for (int k = 0; k < sets.size(); k++) {
            boolean begins = place(sets.get(k)) != null;
            for (int l : links) begins &= l != k;
            beginnings += begins ? 1 : 0;
        }
        return beginnings;
    }

    public int next(int night, int k) {
        if (!in(night, 0, 399) || k < 0) return -1;
        List<List<Integer>> sets = parted(night);
        if (sets == null) return -3;
        if (k >= sets.size()) return -1;
        int l = links(sets)[k];
        return l == sets.size() ? -4 : l;
    }

    public int overhead(int night, int k, int station) {
        if (!isStation(station)) return -1;
        int l = next(night, k);
        if (l < 0) return l;
        List<List<Integer>> sets = parted(night);
        Place a = place(sets.get(k));
        Place b = place(sets.get(l));
        long between = time(sets.get(l)) - time(sets.get(k));
        long least = Long.MAX_VALUE;
        int nearest = -1;
        for (int n = 0; n <= 120; n++) {
            long x = b.x + (long) n * (b.x - a.x) / between - stations.get(station)[0];
            long y = b.y + (long) n * (b.y - a.y) / between - stations.get(station)[1];
            if (x * x + y * y < least) {
                least = x * x + y * y;
                nearest = n;
            }
        }
        return nearest;
    }

    private Watch watchOf(int station, int night) {
        for (Watch w : watches) {
            if (w.station == station && w.night == night) return w;
        }
        return null;
    }

    private boolean saw(int station, int night) {
        return sightings.stream().anyMatch(s -> s.station == station && s.night == night);
    }

    public int watch(int station, int night, int hours, int clouded, int moonlit) {
        if (!isStation(station) || !in(night, 0, 399) || !in(hours, 0, 24) || clouded < 0 || moonlit < 0
            || clouded > hours || moonlit > hours - clouded) return -1;
        if (watchOf(station, night) != null) return -2;
        if (watches.size() == 60) return -3;
        watches.add(new Watch(station, night, hours, clouded, moonlit));
        return hours - clouded;
    }

    public int seen(int station, int night) {
        if (!isStation(station) || !in(night, 0, 399)) return -1;
        if (saw(station, night)) return 1;
        Watch w = watchOf(station, night);
        return w == null ? -4 : w.hours - w.clouded - w.moonlit > 0 ? 0 : -2;
    }

    public int rate(int station, int from, int to, int what) {
        if (station != -1 && !isStation(station) || from < 0 || to > 399 || from > to || !in(what, 0, 3)) return -1;
        int[] n = new int[4];
        for (Watch w : watches) {
            int clear = w.hours - w.clouded;
            if ((station < 0 || w.station == station) && in(w.night, from, to) && clear > 0) {
                n[0]++;
                n[1] += saw(w.station, w.night) ? 1 : 0;
                n[2] += clear;
            }
        }
        n[3] = n[2] == 0 ? 0 : 1000 * n[1] / n[2];
        return n[what];
    }

    private TreeSet<Integer> nights() {
        TreeSet<Integer> nights = new TreeSet<>();
        for (Sighting s : sightings) nights.add(s.night);
        return nights;
    }

    public int round(int p) {
        if (!in(p, 20, 40)) return -1;
        int pairs = 0;
        for (int a : nights()) {
            for (int b : nights()) pairs += (a - b) % p == 0 ? 1 : 0;
        }
        return p * pairs;
    }

    public int best() {
        if (nights().size() < 3) return -4;
        int best = 40;
        for (int p = 39; p >= 20; p--) best = round(p) >= round(best) ? p : best;
        return best;
    }

    public int share(int a, int b) {
        if (!isSighting(a) || !isSighting(b) || sightings.get(a).station == sightings.get(b).station) return -1;
        List<Integer> pair = List.of(Math.min(a, b), Math.max(a, b));
        if (shared.contains(pair)) return -2;
        if (shared.size() == 20) return -3;
        shared.add(pair);
        return shared.size();
    }

    private boolean fits(int station, int wrong) {
        for (List<Integer> pair : shared) {
            for (int side = 0; side < 2; side++) {
                Sighting own = sightings.get(pair.get(side));
                Sighting other = sightings.get(pair.get(1 - side));
                if (own.station == station && !in(own.minute - wrong, begin(other), end(other))) return false;
            }
        }
        return true;
    }

    public int mended(int station, int which) {
        if (!isStation(station) || !in(which, 0, 1)) return -10001;
        int low = clocks.get(station)[0];
        int high = clocks.get(station)[1];
        for (int i = 0; i <= high - low; i++) {
            int wrong = which == 0 ? low + i : high - i;
            if (fits(station, wrong)) return wrong;
        }
        return -10004;
    }

    public int moved(int station) {
        if (!isStation(station)) return -1;
        int pairs = 0;
        int crossed = 0;
        for (List<Integer> pair : shared) {
            Sighting a = sightings.get(pair.get(0));
            Sighting b = sightings.get(pair.get(1));
            if ((a.station == station || b.station == station) && a.kind > 0 && b.kind > 0) {
                pairs++;
                crossed += crossing(a, b) != null ? 1 : 0;
            }
        }
        return pairs < 2 ? -4 : (pairs - crossed) * 2 > pairs ? 1 : 0;
    }

    public int count(int what) {
        int[] n = {stations.size(), sightings.size(), watches.size(), shared.size(), nights().size()};
        return in(what, 0, 4) ? n[what] : -1;
    }

    public int sheet(int sheet, int lane, int n) {
        if (!in(sheet, 0, 3) || !in(lane, 0, 2) || n > 36) return -1;
        if (n < 0) return -14;
        sheets.put(sheet, lane == 0 ? new short[n] : lane == 1 ? new int[n] : new long[n]);
        return n;
    }

    private static int length(Object row) {
        return row instanceof short[] s ? s.length : row instanceof int[] i ? i.length : ((long[]) row).length;
    }

    private static boolean isOf(Object row, int lane) {
        return lane == 0 ? row instanceof short[] : lane == 1 ? row instanceof int[] : row instanceof long[];
    }

    public int drop(int sheet) {
        if (!in(sheet, 0, 3)) return -1;
        return sheets.containsKey(sheet) ? length(sheets.remove(sheet)) : -11;
    }

    public int item(int sheet, int lane, int i, int v) {
        if (!in(sheet, 0, 3) || !in(lane, 0, 2)) return -1;
        Object row = sheets.get(sheet);
        if (row == null) return -11;
        if (!isOf(row, lane)) return -12;
        if (!in(i, 0, length(row) - 1)) return -13;
        if (row instanceof short[] s) s[i] = (short) v;
        if (row instanceof int[] s) s[i] = v;
        if (row instanceof long[] s) s[i] = v;
        return 1;
    }

    public int arcs(int sheet, int lane, int from, int n) {
        if (!in(sheet, 0, 3) || !in(lane, 0, 2) || !in(n, 0, 6)) return -1;
        Object row = sheets.get(sheet);
        if (row == null) return -11;
        if (!isOf(row, lane)) return -12;
        if (from < 0 || from + 6L * n > length(row)) return -13;
        List<Sighting> before = new ArrayList<>(sightings);
        sightings.clear();
        boolean good = true;
        for (int i = 0; i < n; i++) {
            int[] v = new int[6];
            for (int j = 0; j < 6; j++) {
                int at = from + 6 * i + j;
                v[j] = row instanceof short[] s ? s[at] : row instanceof int[] s ? s[at] : (int) ((long[]) row)[at];
            }
            good &= arc(v[0], v[1], v[2], v[3], v[4], v[5]) >= 0;
        }
        List<Sighting> come = new ArrayList<>(sightings);
        sightings.clear();
        sightings.addAll(before);
        if (!good) return -2;
        if (before.size() + n > 40) return -3;
        sightings.addAll(come);
        return sightings.size();
    }
}
