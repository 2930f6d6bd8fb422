/**
 * Curtains in the north: stations, sightings by clocks that differ, the curtains and ways they tell of,
 * nights watched, clocks mended, sheets of arcs. What each call answers is told in the document (DOC.md).
 */
public final class NorthCurtains {
    public static final int BAD = -1, NOT = -2, FULL = -3, NONE = -4, NULL = -11, CAST = -12, INDEX = -13, SIZE = -14;

    private static final int MOST_STATIONS = 8, MOST_SIGHTINGS = 40, MOST_NIGHT_ARCS = 10;
    private static final int MOST_WATCHES = 60, MOST_SHARED = 20, SHEETS = 4, MOST_ITEMS = 36;
    private static final int NIGHTS = 400, LEAST_ROUND = 20, MOST_ROUND = 40;
    private static final int LANES = 3, SHORTS = 0, ARC_ITEMS = 6, MOST_SHEET_ARCS = 6;

    // Some answers may be below 0 themselves, so their refusals lie below all that they can be.
    private static final int BELOW_TOLD = 1000, BELOW_LEAN = 100, BELOW_PLACES = 100000, BELOW_MENDED = 10000;

    private static final int[] SINES = {
        0, 17, 35, 52, 70, 87, 105, 122, 139, 156, 174, 191, 208, 225, 242,
        259, 276, 292, 309, 326, 342, 358, 375, 391, 407, 423, 438, 454, 469, 485,
        500, 515, 530, 545, 559, 574, 588, 602, 616, 629, 643, 656, 669, 682, 695,
        707, 719, 731, 743, 755, 766, 777, 788, 799, 809, 819, 829, 839, 848, 857,
        866, 875, 883, 891, 899, 906, 914, 921, 927, 934, 940, 946, 951, 956, 961,
        966, 970, 974, 978, 982, 985, 988, 990, 993, 995, 996, 998, 999, 999, 1000,
        1000
    };

    // Item 0 only keeps the others at their own degree.
    private static final int[] TANGENTS = {
        0, 17, 35, 52, 70, 87, 105, 123, 141, 158, 176, 194, 213, 231, 249,
        268, 287, 306, 325, 344, 364, 384, 404, 424, 445, 466, 488, 510, 532, 554,
        577, 601, 625, 649, 675, 700, 727, 754, 781, 810, 839, 869, 900, 933, 966,
        1000, 1036, 1072, 1111, 1150, 1192, 1235, 1280, 1327, 1376, 1428, 1483, 1540, 1600, 1664,
        1732, 1804, 1881, 1963, 2050, 2145, 2246, 2356, 2475, 2605, 2747, 2904, 3078, 3271, 3487,
        3732, 4011, 4331, 4705, 5145, 5671, 6314, 7115, 8144, 9514, 11430, 14301, 19081, 28636, 57290
    };

    private final Station[] stations = new Station[MOST_STATIONS];
    private final Glow[] sightings = new Glow[MOST_SIGHTINGS];
    private final Watch[] watches = new Watch[MOST_WATCHES];
    private final int[] sharedFirst = new int[MOST_SHARED];
    private final int[] sharedSecond = new int[MOST_SHARED];
    private final int[] nightsSeen = new int[MOST_SIGHTINGS];
    private final int[] rests = new int[MOST_ROUND];
    private final Row[] rows = new Row[SHEETS];
    private final Crossing crossing = new Crossing();
    private final Sky sky = new Sky();
    private int stationCount;
    private int sightingCount;
    private int watchCount;
    private int sharedCount;
    private int nightsSeenCount;
    private int thickness = 20;
    private int pace = 20;

    public NorthCurtains() {
    }

    // ---- 1 stations and sightings

    public int station(int x, int y) {
        if (!isWithin(x, 0, 2000) || !isWithin(y, 0, 2000)) {
            return BAD;
        }
        if (stationCount >= MOST_STATIONS) {
            return FULL;
        }
        int number = stationCount;
        stations[number] = new Station(number, x, y);
        stationCount++;
        return number;
    }

    public int clock(int station, int low, int high) {
        Station at = stationAt(station);
        if (at == null || !isWithin(low, -60, 60) || !isWithin(high, low, 60)) {
            return BAD;
        }
        at.low = low;
        at.high = high;
        return 1;
    }

    public int glow(int station, int night, int minute, int bearing, int height) {
        Station at = stationAt(station);
        if (at == null || !isInSky(night, minute, bearing, height)) {
            return BAD;
        }
        if (sightingCount >= MOST_SIGHTINGS) {
            return FULL;
        }
        return keep(new Glow(at, night, minute, bearing, height));
    }

    public int arc(int station, int night, int minute, int bearing, int height, int colour) {
        Station at = stationAt(station);
        if (at == null || !isInSky(night, minute, bearing, height) || !isColour(colour)) {
            return BAD;
        }
        if (sightingCount >= MOST_SIGHTINGS) {
            return FULL;
        }
        return keep(new Arc(at, night, minute, bearing, height, colour));
    }

    public int ray(int station, int night, int minute, int bearing, int height, int colour, int lean) {
        Station at = stationAt(station);
        if (at == null || !isInSky(night, minute, bearing, height) || !isColour(colour) || !isWithin(lean, -45, 45)) {
            return BAD;
        }
        if (sightingCount >= MOST_SIGHTINGS) {
            return FULL;
        }
        return keep(new Ray(at, night, minute, bearing, height, colour, lean));
    }

    public int told(int sighting, int what) {
        Glow glow = sightingAt(sighting);
        if (glow == null) {
            return BAD - BELOW_TOLD;
        }
        switch (what) {
            case 0: return glow.kind();
            case 1: return glow.at.number;
            case 2: return glow.night;
            case 3: return glow.minute;
            case 4: return glow.bearing;
            case 5: return glow.height;
            case 6: return glow.earliest();
            case 7: return glow.latest();
            default: return BAD - BELOW_TOLD;
        }
    }

    public int colour(int sighting) {
        Glow glow = sightingAt(sighting);
        if (glow == null) {
            return BAD;
        }
        if (glow instanceof Arc arc) {
            return arc.hue;
        }
        return CAST;
    }

    public int lean(int sighting) {
        Glow glow = sightingAt(sighting);
        if (glow == null) {
            return BAD - BELOW_LEAN;
        }
        if (glow instanceof Ray ray) {
            return ray.slant;
        }
        return CAST - BELOW_LEAN;
    }

    public int table(int which, int d) {
        if (which == 0 && isWithin(d, 0, 359)) {
            return sine(d);
        }
        if (which == 1 && isWithin(d, 0, 359)) {
            return cosine(d);
        }
        if (which == 2 && isWithin(d, 1, 89)) {
            return TANGENTS[d];
        }
        return BAD - BELOW_PLACES;
    }

    public int thick(int n) {
        if (!isWithin(n, 0, 200)) {
            return BAD;
        }
        int before = thickness;
        thickness = n;
        return before;
    }

    public int meets(int a, int b) {
        Glow first = sightingAt(a);
        Glow second = sightingAt(b);
        if (first == null || second == null || a == b) {
            return BAD;
        }
        if (first instanceof Arc one && second instanceof Arc other) {
            if (!crossing.find(one, other, thickness)) {
                return 0;
            }
            return one.mayBeAtOnceWith(other) ? 2 : 1;
        }
        return CAST;
    }

    public int cross(int a, int b, int what) {
        Glow first = sightingAt(a);
        Glow second = sightingAt(b);
        if (first == null || second == null || a == b || !isWithin(what, 0, Crossing.VALUES - 1)) {
            return BAD - BELOW_PLACES;
        }
        if (first instanceof Arc one && second instanceof Arc other) {
            return crossing.find(one, other, thickness) ? crossing.values[what] : NONE - BELOW_PLACES;
        }
        return CAST - BELOW_PLACES;
    }

    // ---- 2 curtains

    public int curtains(int night) {
        return isNight(night) ? lookAt(night) : BAD;
    }

    public int curtain(int night, int k, int what) {
        if (!isNight(night) || k < 0 || !isWithin(what, 0, 5)) {
            return BAD - BELOW_PLACES;
        }
        int found = lookAt(night);
        if (found == FULL) {
            return FULL - BELOW_PLACES;
        }
        if (k >= found) {
            return BAD - BELOW_PLACES;
        }
        Curtain curtain = sky.curtains[k];
        if (isWithin(what, 2, 4) && !curtain.hasPlace()) {
            return NONE - BELOW_PLACES;
        }
        return curtain.answer(what);
    }

    public int curtainOf(int sighting) {
        Glow glow = sightingAt(sighting);
        if (glow == null) {
            return BAD;
        }
        if (!(glow instanceof Arc)) {
            return CAST;
        }
        return lookAt(glow.night) == FULL ? FULL : sky.setOfSighting(sighting);
    }

    public int speed(int v) {
        if (!isWithin(v, 1, 60)) {
            return BAD;
        }
        int before = pace;
        pace = v;
        return before;
    }

    public int ways(int night) {
        if (!isNight(night)) {
            return BAD;
        }
        if (lookAt(night) == FULL) {
            return FULL;
        }
        return sky.joinWays(pace);
    }

    public int next(int night, int k) {
        if (!isNight(night) || k < 0) {
            return BAD;
        }
        int found = lookAt(night);
        if (found == FULL) {
            return FULL;
        }
        if (k >= found) {
            return BAD;
        }
        sky.joinWays(pace);
        return sky.curtains[k].follower;
    }

    public int overhead(int night, int k, int station) {
        Station at = stationAt(station);
        if (at == null) {
            return BAD;
        }
        int follower = next(night, k);
        if (follower < 0) {
            return follower;
        }
        return sky.curtains[k].nearestMinute(sky.curtains[follower], at);
    }

    // ---- 3 nights

    public int watch(int station, int night, int hours, int clouded, int moonlit) {
        Station at = stationAt(station);
        if (at == null || !isNight(night) || !isWithin(hours, 0, 24) || !isWithin(clouded, 0, hours)
                || !isWithin(moonlit, 0, hours - clouded)) {
            return BAD;
        }
        if (watchOf(at, night) != null) {
            return NOT;
        }
        if (watchCount >= MOST_WATCHES) {
            return FULL;
        }
        int clear = hours - clouded;
        watches[watchCount] = new Watch(at, night, clear, clear - moonlit);
        watchCount++;
        return clear;
    }

    public int seen(int station, int night) {
        Station at = stationAt(station);
        if (at == null || !isNight(night)) {
            return BAD;
        }
        if (saw(at, night)) {
            return 1;
        }
        Watch watch = watchOf(at, night);
        if (watch == null) {
            return NONE;
        }
        return watch.dark > 0 ? 0 : NOT;
    }

    public int rate(int station, int from, int to, int what) {
        if (station != -1 && stationAt(station) == null) {
            return BAD;
        }
        if (!isNight(from) || !isNight(to) || from > to || !isWithin(what, 0, 3)) {
            return BAD;
        }
        int clearWatches = 0;
        int clearHours = 0;
        int seenWatches = 0;
        for (int i = 0; i < watchCount; i++) {
            Watch watch = watches[i];
            boolean counts = (station == -1 || watch.at.number == station) && isWithin(watch.night, from, to);
            if (counts && watch.clear > 0) {
                clearWatches++;
                clearHours += watch.clear;
                seenWatches += saw(watch.at, watch.night) ? 1 : 0;
            }
        }
        switch (what) {
            case 0: return clearWatches;
            case 1: return seenWatches;
            case 2: return clearHours;
            default: return clearHours == 0 ? 0 : 1000 * seenWatches / clearHours;
        }
    }

    public int round(int p) {
        return isWithin(p, LEAST_ROUND, MOST_ROUND) ? roundOf(p) : BAD;
    }

    public int best() {
        if (nightsSeenCount < 3) {
            return NONE;
        }
        int bestRound = LEAST_ROUND;
        int bestValue = roundOf(LEAST_ROUND);
        for (int p = LEAST_ROUND + 1; p <= MOST_ROUND; p++) {
            int value = roundOf(p);
            if (value > bestValue) {
                bestRound = p;
                bestValue = value;
            }
        }
        return bestRound;
    }

    public int share(int a, int b) {
        Glow first = sightingAt(a);
        Glow second = sightingAt(b);
        if (first == null || second == null || first.at.number == second.at.number) {
            return BAD;
        }
        if (areShared(a, b)) {
            return NOT;
        }
        if (sharedCount >= MOST_SHARED) {
            return FULL;
        }
        sharedFirst[sharedCount] = a;
        sharedSecond[sharedCount] = b;
        sharedCount++;
        return sharedCount;
    }

    public int mended(int station, int which) {
        Station at = stationAt(station);
        if (at == null || !isWithin(which, 0, 1)) {
            return BAD - BELOW_MENDED;
        }
        int least = at.low;
        int greatest = at.high;
        for (int i = 0; i < sharedCount; i++) {
            Glow first = sightings[sharedFirst[i]];
            Glow second = sightings[sharedSecond[i]];
            if (first.at.number == station || second.at.number == station) {
                boolean isFirst = first.at.number == station;
                int ahead = isFirst ? first.minute - second.minute : second.minute - first.minute;
                Station other = isFirst ? second.at : first.at;
                least = Math.max(least, ahead + other.low);
                greatest = Math.min(greatest, ahead + other.high);
            }
        }
        if (least > greatest) {
            return NONE - BELOW_MENDED;
        }
        return which == 0 ? least : greatest;
    }

    public int moved(int station) {
        if (stationAt(station) == null) {
            return BAD;
        }
        int pairs = 0;
        int apart = 0;
        for (int i = 0; i < sharedCount; i++) {
            Glow first = sightings[sharedFirst[i]];
            Glow second = sightings[sharedSecond[i]];
            boolean isIts = first.at.number == station || second.at.number == station;
            if (isIts && first instanceof Arc one && second instanceof Arc other) {
                pairs++;
                apart += crossing.find(one, other, thickness) ? 0 : 1;
            }
        }
        if (pairs < 2) {
            return NONE;
        }
        return 2 * apart > pairs ? 1 : 0;
    }

    public int count(int what) {
        switch (what) {
            case 0: return stationCount;
            case 1: return sightingCount;
            case 2: return watchCount;
            case 3: return sharedCount;
            case 4: return nightsSeenCount;
            default: return BAD;
        }
    }

    // ---- 4 sheets

    public int sheet(int sheet, int lane, int n) {
        if (!isSheet(sheet) || !isLane(lane) || n > MOST_ITEMS) {
            return BAD;
        }
        if (n < 0) {
            return SIZE;
        }
        rows[sheet] = new Row(lane, n);
        return n;
    }

    public int drop(int sheet) {
        if (!isSheet(sheet)) {
            return BAD;
        }
        Row row = rows[sheet];
        if (row == null) {
            return NULL;
        }
        rows[sheet] = null;
        return row.items.length;
    }

    public int item(int sheet, int lane, int i, int v) {
        if (!isSheet(sheet) || !isLane(lane)) {
            return BAD;
        }
        Row row = rows[sheet];
        if (row == null) {
            return NULL;
        }
        if (row.lane != lane) {
            return CAST;
        }
        if (!row.holds(i, 1)) {
            return INDEX;
        }
        row.items[i] = lane == SHORTS ? (short) v : v;
        return 1;
    }

    public int arcs(int sheet, int lane, int from, int n) {
        if (!isSheet(sheet) || !isLane(lane) || !isWithin(n, 0, MOST_SHEET_ARCS)) {
            return BAD;
        }
        Row row = rows[sheet];
        if (row == null) {
            return NULL;
        }
        if (row.lane != lane) {
            return CAST;
        }
        if (!row.holds(from, ARC_ITEMS * n)) {
            return INDEX;
        }
        return keepArcs(row.items, from, n);
    }

    // ---- what the calls share

    private static boolean isWithin(int value, int least, int greatest) {
        return value >= least && value <= greatest;
    }

    private static boolean isNight(int night) {
        return isWithin(night, 0, NIGHTS - 1);
    }

    private static boolean isInSky(int night, int minute, int bearing, int height) {
        return isNight(night) && isWithin(minute, 0, 1439) && isWithin(bearing, 0, 359) && isWithin(height, 2, 88);
    }

    private static boolean isColour(int colour) {
        return isWithin(colour, 0, 4);
    }

    private static boolean isSheet(int sheet) {
        return isWithin(sheet, 0, SHEETS - 1);
    }

    private static boolean isLane(int lane) {
        return isWithin(lane, 0, LANES - 1);
    }

    private static int sine(int d) {
        int turn = Math.floorMod(d, 360);
        int half = turn >= 180 ? turn - 180 : turn;
        int value = SINES[half > 90 ? 180 - half : half];
        return turn >= 180 ? -value : value;
    }

    private static int cosine(int d) {
        return sine(d + 90);
    }

    private Station stationAt(int number) {
        return isWithin(number, 0, stationCount - 1) ? stations[number] : null;
    }

    private Glow sightingAt(int number) {
        return isWithin(number, 0, sightingCount - 1) ? sightings[number] : null;
    }

    /** Callers have looked whether there is room. */
    private int keep(Glow sighting) {
        int number = sightingCount;
        if (!isSeenNight(sighting.night)) {
            nightsSeen[nightsSeenCount] = sighting.night;
            nightsSeenCount++;
        }
        sightings[number] = sighting;
        sightingCount++;
        return number;
    }

    private boolean isSeenNight(int night) {
        for (int i = 0; i < nightsSeenCount; i++) {
            if (nightsSeen[i] == night) {
                return true;
            }
        }
        return false;
    }

    /** All arcs are looked at before the first is kept, since a refused call changes nothing. */
    private int keepArcs(int[] items, int from, int n) {
        for (int i = 0; i < n; i++) {
            if (!isArcAt(items, from + ARC_ITEMS * i)) {
                return NOT;
            }
        }
        if (n > MOST_SIGHTINGS - sightingCount) {
            return FULL;
        }
        for (int i = 0; i < n; i++) {
            keepArcAt(items, from + ARC_ITEMS * i);
        }
        return sightingCount;
    }

    private boolean isArcAt(int[] items, int i) {
        return stationAt(items[i]) != null && isInSky(items[i + 1], items[i + 2], items[i + 3], items[i + 4])
                && isColour(items[i + 5]);
    }

    private void keepArcAt(int[] items, int i) {
        Station at = stationAt(items[i]);
        if (at != null) {
            keep(new Arc(at, items[i + 1], items[i + 2], items[i + 3], items[i + 4], items[i + 5]));
        }
    }

    /** How many curtains a night has, told anew in the sky; or FULL. */
    private int lookAt(int night) {
        if (!sky.gather(sightings, sightingCount, night)) {
            return FULL;
        }
        return sky.partCurtains(crossing, thickness);
    }

    private Watch watchOf(Station at, int night) {
        for (int i = 0; i < watchCount; i++) {
            Watch watch = watches[i];
            if (watch.at.number == at.number && watch.night == night) {
                return watch;
            }
        }
        return null;
    }

    private boolean saw(Station at, int night) {
        for (int i = 0; i < sightingCount; i++) {
            Glow glow = sightings[i];
            if (glow.at.number == at.number && glow.night == night) {
                return true;
            }
        }
        return false;
    }

    /** Callers have looked at p. */
    private int roundOf(int p) {
        for (int i = 0; i < p; i++) {
            rests[i] = 0;
        }
        for (int i = 0; i < nightsSeenCount; i++) {
            rests[nightsSeen[i] % p]++;
        }
        int squares = 0;
        for (int i = 0; i < p; i++) {
            squares += rests[i] * rests[i];
        }
        return p * squares;
    }

    private boolean areShared(int a, int b) {
        for (int i = 0; i < sharedCount; i++) {
            int first = sharedFirst[i];
            int second = sharedSecond[i];
            if (first == a && second == b || first == b && second == a) {
                return true;
            }
        }
        return false;
    }

    private static final class Station {
        final int number;
        final int x;
        final int y;
        int low;
        int high;

        Station(int number, int x, int y) {
            this.number = number;
            this.x = x;
            this.y = y;
        }
    }

    private static class Glow {
        final Station at;
        final int night;
        final int minute;
        final int bearing;
        final int height;

        Glow(Station at, int night, int minute, int bearing, int height) {
            this.at = at;
            this.night = night;
            this.minute = minute;
            this.bearing = bearing;
            this.height = height;
        }

        int kind() {
            return 0;
        }

        // The clock may be set behind a sighting, so these are never kept.
        int earliest() {
            return minute - at.high;
        }

        int latest() {
            return minute - at.low;
        }
    }

    private static class Arc extends Glow {
        final int hue;
        // Where the bearing points, in thousandths.
        final int east;
        final int north;

        Arc(Station at, int night, int minute, int bearing, int height, int hue) {
            super(at, night, minute, bearing, height);
            this.hue = hue;
            this.east = sine(bearing);
            this.north = cosine(bearing);
        }

        int kind() {
            return 1;
        }

        boolean mayBeAtOnceWith(Arc other) {
            return night == other.night && earliest() <= other.latest() && other.earliest() <= latest();
        }
    }

    private static final class Ray extends Arc {
        final int slant;

        Ray(Station at, int night, int minute, int bearing, int height, int hue, int slant) {
            super(at, night, minute, bearing, height, hue);
            this.slant = slant;
        }

        int kind() {
            return 2;
        }
    }

    /** Where two arcs cross; one object serves all pairs, one behind the other. */
    private static final class Crossing {
        static final int VALUES = 7;
        static final int X = 0, Y = 1, HEIGHT = 2, LOWER_END = 3, UPPER_END = 4, FIRST_FAR = 5, SECOND_FAR = 6;
        private static final int LEAST_TURN = 50000, MOST_FAR = 1500;

        final int[] values = new int[VALUES];

        /** Whether two arcs cross; the values are told only then. */
        boolean find(Arc a, Arc b, int thickness) {
            if (a.at.number == b.at.number) {
                return false;
            }
            int turn = a.east * b.north - a.north * b.east;
            if (Math.abs(turn) < LEAST_TURN) {
                return false;
            }
            int awayEast = b.at.x - a.at.x;
            int awayNorth = b.at.y - a.at.y;
            // 1000 times the sums goes beyond an int.
            long r = 1000L * (awayEast * b.north - awayNorth * b.east) / turn;
            long s = 1000L * (awayEast * a.north - awayNorth * a.east) / turn;
            if (r < 1 || r > MOST_FAR || s < 1 || s > MOST_FAR) {
                return false;
            }
            values[FIRST_FAR] = (int) r;
            values[SECOND_FAR] = (int) s;
            return findHeights(a, b, thickness);
        }

        private boolean findHeights(Arc a, Arc b, int thickness) {
            int r = values[FIRST_FAR];
            int s = values[SECOND_FAR];
            int first = rise(r, a.height);
            int second = rise(s, b.height);
            if (Math.abs(first - second) > thickness) {
                return false;
            }
            values[X] = a.at.x + r * a.east / 1000;
            values[Y] = a.at.y + r * a.north / 1000;
            values[HEIGHT] = (first + second) / 2;
            values[LOWER_END] = Math.max(rise(r, a.height - 1), rise(s, b.height - 1));
            values[UPPER_END] = Math.min(rise(r, a.height + 1), rise(s, b.height + 1));
            return true;
        }

        private static int rise(int far, int height) {
            return height >= 1 && height <= 89 ? far * TANGENTS[height] / 1000 : 0;
        }
    }

    private static final class Curtain {
        int size;
        int time;
        int x;
        int y;
        int height;
        int firstSighting;
        int follower;
        private int latestBeginning;
        private int earliestEnd;
        private int pairs;

        void clear() {
            size = 0;
            pairs = 0;
            x = 0;
            y = 0;
            height = 0;
            follower = NONE;
        }

        void take(int sighting, Arc arc) {
            boolean isFirst = size == 0;
            firstSighting = isFirst ? sighting : firstSighting;
            latestBeginning = isFirst ? arc.earliest() : Math.max(latestBeginning, arc.earliest());
            earliestEnd = isFirst ? arc.latest() : Math.min(earliestEnd, arc.latest());
            size++;
        }

        void takePair(int[] values) {
            pairs++;
            x += values[Crossing.X];
            y += values[Crossing.Y];
            height += values[Crossing.HEIGHT];
        }

        void finish() {
            time = Math.floorDiv(latestBeginning + earliestEnd, 2);
            if (pairs > 0) {
                x /= pairs;
                y /= pairs;
                height /= pairs;
            }
        }

        boolean hasPlace() {
            return pairs > 0;
        }

        int answer(int what) {
            switch (what) {
                case 0: return size;
                case 1: return time;
                case 2: return x;
                case 3: return y;
                case 4: return height;
                default: return firstSighting;
            }
        }

        boolean canBeFollowedBy(Curtain b, int pace) {
            if (!hasPlace() || !b.hasPlace() || b.time <= time) {
                return false;
            }
            long reach = (long) pace * (b.time - time);
            return squareOfFar(b.x - x, b.y - y) <= reach * reach;
        }

        int nearestMinute(Curtain b, Station at) {
            int between = b.time - time;
            if (between <= 0) {
                return NONE;
            }
            int nearest = 0;
            long least = squareOfFar(b.x - at.x, b.y - at.y);
            for (int n = 1; n <= 120; n++) {
                int east = b.x + n * (b.x - x) / between;
                int north = b.y + n * (b.y - y) / between;
                long far = squareOfFar(east - at.x, north - at.y);
                if (far < least) {
                    least = far;
                    nearest = n;
                }
            }
            return nearest;
        }

        private static long squareOfFar(int east, int north) {
            return (long) east * east + (long) north * north;
        }
    }

    /** The arcs and rays of one night and their curtains; made once and told anew for each call. */
    private static final class Sky {
        final Curtain[] curtains = new Curtain[MOST_NIGHT_ARCS];
        private final Arc[] arcs = new Arc[MOST_NIGHT_ARCS];
        private final int[] numbers = new int[MOST_NIGHT_ARCS];
        // Sets of arcs and of curtains are kept as bits, bit i for the i-th; of meetings, each arc's with those ahead.
        private final int[] meeting = new int[MOST_NIGHT_ARCS];
        private final int[] members = new int[MOST_NIGHT_ARCS];
        private final int[] followers = new int[MOST_NIGHT_ARCS];
        private final int[] setOf = new int[MOST_NIGHT_ARCS];
        private int arcCount;
        private int curtainCount;

        Sky() {
            for (int i = 0; i < MOST_NIGHT_ARCS; i++) {
                curtains[i] = new Curtain();
            }
        }

        /** Whether the night's arcs and rays are few enough. */
        boolean gather(Glow[] sightings, int count, int night) {
            arcCount = 0;
            for (int i = 0; i < count; i++) {
                if (sightings[i] instanceof Arc arc && arc.night == night) {
                    if (arcCount >= MOST_NIGHT_ARCS) {
                        return false;
                    }
                    arcs[arcCount] = arc;
                    numbers[arcCount] = i;
                    arcCount++;
                }
            }
            return true;
        }

        int partCurtains(Crossing crossing, int thickness) {
            findMeetings(crossing, thickness);
            curtainCount = 0;
            boolean isParted = arcCount == 0;
            for (int most = 1; most <= arcCount && !isParted; most++) {
                isParted = partFrom(0, 0, most);
                curtainCount = most;
            }
            for (int k = 0; k < curtainCount; k++) {
                tellCurtain(k, crossing, thickness);
            }
            return curtainCount;
        }

        int setOfSighting(int sighting) {
            for (int i = 0; i < arcCount; i++) {
                if (numbers[i] == sighting) {
                    return setOf[i];
                }
            }
            return NONE;
        }

        /** How many ways there are; each curtain's follower is told. */
        int joinWays(int pace) {
            int placed = findFollowers(pace);
            int links = mostLinks(0, 0);
            int due = links;
            int taken = 0;
            for (int k = 0; k < curtainCount; k++) {
                int follower = firstFollower(k, taken, due);
                curtains[k].follower = follower;
                if (follower != NONE) {
                    taken |= 1 << follower;
                    due--;
                }
            }
            return placed - links;
        }

        private void findMeetings(Crossing crossing, int thickness) {
            for (int i = 0; i < arcCount; i++) {
                meeting[i] = 0;
            }
            for (int i = 0; i < arcCount; i++) {
                for (int j = i + 1; j < arcCount; j++) {
                    if (arcs[i].mayBeAtOnceWith(arcs[j]) && crossing.find(arcs[i], arcs[j], thickness)) {
                        meeting[j] |= 1 << i;
                    }
                }
            }
        }

        /** Puts arc i and all behind it into sets, the lesser set first, so what fits first is the first of all. */
        private boolean partFrom(int i, int begun, int most) {
            if (i >= arcCount) {
                return true;
            }
            for (int k = 0; k <= begun && k < most; k++) {
                int others = k < begun ? members[k] : 0;
                if ((others & ~meeting[i]) == 0) {
                    setOf[i] = k;
                    members[k] = others | 1 << i;
                    if (partFrom(i + 1, Math.max(begun, k + 1), most)) {
                        return true;
                    }
                    members[k] = others;
                }
            }
            return false;
        }

        private void tellCurtain(int k, Crossing crossing, int thickness) {
            Curtain curtain = curtains[k];
            curtain.clear();
            for (int i = 0; i < arcCount; i++) {
                if (setOf[i] == k) {
                    curtain.take(numbers[i], arcs[i]);
                    for (int j = i + 1; j < arcCount; j++) {
                        if (setOf[j] == k && crossing.find(arcs[i], arcs[j], thickness)) {
                            curtain.takePair(crossing.values);
                        }
                    }
                }
            }
            curtain.finish();
        }

        /** How many curtains have a place; whom each can be followed by is told. */
        private int findFollowers(int pace) {
            int placed = 0;
            for (int a = 0; a < curtainCount; a++) {
                placed += curtains[a].hasPlace() ? 1 : 0;
                followers[a] = 0;
                for (int b = 0; b < curtainCount; b++) {
                    if (curtains[a].canBeFollowedBy(curtains[b], pace)) {
                        followers[a] |= 1 << b;
                    }
                }
            }
            return placed;
        }

        /** Each follower more is a way less, so the fewest ways have the most followers. */
        private int mostLinks(int k, int taken) {
            if (k >= curtainCount) {
                return 0;
            }
            int most = mostLinks(k + 1, taken);
            for (int b = 0; b < curtainCount; b++) {
                if ((followers[k] & ~taken & 1 << b) != 0) {
                    most = Math.max(most, 1 + mostLinks(k + 1, taken | 1 << b));
                }
            }
            return most;
        }

        private int firstFollower(int k, int taken, int due) {
            for (int b = 0; b < curtainCount; b++) {
                boolean isFree = (followers[k] & ~taken & 1 << b) != 0;
                if (isFree && 1 + mostLinks(k + 1, taken | 1 << b) == due) {
                    return b;
                }
            }
            return NONE;
        }
    }

    private static final class Watch {
        final Station at;
        final int night;
        final int clear;
        final int dark;

        Watch(Station at, int night, int clear, int dark) {
            this.at = at;
            this.night = night;
            this.clear = clear;
            this.dark = dark;
        }
    }

    /** A row of any lane: ints hold all that an item can become, in a row of longs too. */
    private static final class Row {
        final int lane;
        final int[] items;

        Row(int lane, int n) {
            this.lane = lane;
            this.items = new int[n];
        }

        /** Whether n items from one on are all there. */
        boolean holds(int from, int n) {
            return from >= 0 && from <= items.length - n;
        }
    }
}
