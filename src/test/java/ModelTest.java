import java.lang.reflect.Method;
import java.lang.reflect.Modifier;
import java.util.ArrayList;
import java.util.Comparator;
import java.util.HashMap;
import java.util.List;
import java.util.Map;
import java.util.Random;

/** All promises: random runs of 512 calls, each answered by the class and by the Model. */
public final class ModelTest {
    private static final int RUNS = 600, CALLS = 512;
    private static final int[] WILD = {Integer.MIN_VALUE, Integer.MAX_VALUE, -1, -2, -61, 7, 8, 36, 37, 40, 41, 61, 399,
        400, 1440, 2001, 65536, 100000};

    private static final String[] CURTAINS = {"meets", "cross", "curtains", "curtain", "curtainOf", "ways", "next",
        "overhead", "speed"};

    private final Random random;
    private final NorthCurtains real = new NorthCurtains();
    private final Model model = new Model();
    private final List<String> told = new ArrayList<>();
    private final int[][] lights = new int[4][2];
    private final int[] lightHeights = new int[4];
    private final List<int[]> stations = new ArrayList<>();
    private final int[] nights;
    private final int lightCount;
    private final int timeCount;
    private final int[] lanes = new int[4];

    private static final Map<String, Method> FACE = new HashMap<>();
    private static final Map<String, Method> MODEL = new HashMap<>();
    private static final List<String> NAMES = new ArrayList<>();
    private static final Map<String, Map<Integer, Integer>> ANSWERS = new HashMap<>();

    private ModelTest(long seed) {
        random = new Random(seed);
        nights = new int[1 + random.nextInt(4) / 2];
        for (int i = 0; i < nights.length; i++) nights[i] = random.nextInt(400);
        lightCount = 1 + random.nextInt(lights.length);
        timeCount = 1 + random.nextInt(5);
        for (int i = 0; i < lights.length; i++) {
            lights[i][0] = random.nextInt(900) + 300;
            lights[i][1] = random.nextInt(900) + 300;
            lightHeights[i] = 80 + random.nextInt(80);
        }
    }

    public static void main(String[] args) throws Exception {
        for (Method m : NorthCurtains.class.getDeclaredMethods()) {
            if (Modifier.isPublic(m.getModifiers())) {
                FACE.put(m.getName(), m);
                MODEL.put(m.getName(), Model.class.getMethod(m.getName(), m.getParameterTypes()));
                NAMES.add(m.getName());
            }
        }
        NAMES.sort(Comparator.naturalOrder());
        int wrong = 0;
        for (int seed = 0; seed < RUNS; seed++) {
            wrong += new ModelTest(seed).run(seed) ? 0 : 1;
        }
        boolean show = args.length > 0;
        for (String name : NAMES) {
            Map<Integer, Integer> answers = ANSWERS.getOrDefault(name, Map.of());
            if (show) {
                StringBuilder line = new StringBuilder(name).append(':');
                answers.entrySet().stream().sorted((a, b) -> b.getValue() - a.getValue()).limit(14)
                    .forEach(e -> line.append(' ').append(e.getKey()).append('x').append(e.getValue()));
                System.out.println(line);
            }
            if (answers.size() < 2) {
                System.out.println("ModelTest: " + name + " always answered alike, the runs are too poor");
                wrong++;
            }
        }
        System.out.println("ModelTest: " + RUNS + " runs, " + wrong + " wrong");
        if (wrong != 0) System.exit(1);
    }

    private boolean run(long seed) throws Exception {
        int people = 2 + random.nextInt(7);
        for (int i = 0; i < people; i++) {
            if (!ask("station", random.nextInt(1500), random.nextInt(1500))) return fail(seed);
        }
        int mode = random.nextInt(6);
        boolean settled = random.nextInt(4) > 0;
        if (settled && !ask("thick", 30 + random.nextInt(171))) return fail(seed);
        boolean loose = random.nextInt(3) > 0;
        for (int i = 0; settled && loose && i < people; i++) {
            if (!ask("clock", i, -random.nextInt(5), random.nextInt(5))) return fail(seed);
        }
        for (int i = 0; settled && i < 6 + random.nextInt(7); i++) {
            if (!ask("arc", sighting(6))) return fail(seed);
        }
        while (told.size() < CALLS) {
            String name = random.nextInt(3) > 0 ? NAMES.get(random.nextInt(NAMES.size()))
                : CURTAINS[random.nextInt(CURTAINS.length)];
            // What is settled is seldom changed, so that there are nights with many curtains.
            if (settled && (name.equals("thick") || name.equals("clock")) && random.nextInt(8) > 0) continue;
            boolean sighting = name.equals("glow") || name.equals("arc") || name.equals("ray") || name.equals("arcs");
            // Few sightings, or else the nights are soon too full to be told.
            if (sighting && random.nextInt(2 * mode + 1) > 0) continue;
            if (name.equals("station") && random.nextInt(20) > 0) continue;
            if (name.equals("arcs") && random.nextInt(2) == 0 && !fillSheet()) return fail(seed);
            if (!ask(name, arguments(name))) return fail(seed);
        }
        return true;
    }

    private boolean fail(long seed) {
        System.out.println("ModelTest: run " + seed + ", call " + told.size() + ": " + told.get(told.size() - 1));
        return false;
    }

    private boolean ask(String name, int... args) throws Exception {
        Object[] boxed = new Object[args.length];
        StringBuilder call = new StringBuilder(name).append('(');
        for (int i = 0; i < args.length; i++) {
            boxed[i] = args[i];
            call.append(i == 0 ? "" : ", ").append(args[i]);
        }
        int got = (Integer) FACE.get(name).invoke(real, boxed);
        int want = (Integer) MODEL.get(name).invoke(model, boxed);
        told.add(call + ") answered " + got + ", due is " + want);
        if (name.equals("station") && got >= 0) stations.add(args);
        if (name.equals("sheet") && got >= 0) lanes[args[0]] = args[1];
        ANSWERS.computeIfAbsent(name, k -> new HashMap<>()).merge(got, 1, Integer::sum);
        return got == want;
    }

    private boolean fillSheet() throws Exception {
        int sheet = random.nextInt(4);
        int lane = random.nextInt(3);
        int n = 1 + random.nextInt(2);
        if (!ask("sheet", sheet, lane, 6 * n)) return false;
        for (int i = 0; i < n; i++) {
            int[] arc = sighting(6);
            for (int j = 0; j < 6; j++) {
                if (!ask("item", sheet, lane, 6 * i + j, arc[j])) return false;
            }
        }
        return ask("arcs", sheet, lane, 0, n);
    }

    private int[] arguments(String name) {
        int n = FACE.get(name).getParameterCount();
        int[] args = new int[n];
        switch (name) {
            case "station": args = new int[] {random.nextInt(2001), random.nextInt(2001)}; break;
            case "clock": args = clock(); break;
            case "glow": case "arc": case "ray": args = sighting(n); break;
            case "told": args = new int[] {sightingNumber(), random.nextInt(8)}; break;
            case "table": args = new int[] {random.nextInt(3), random.nextInt(random.nextBoolean() ? 360 : 90)}; break;
            case "thick": args = new int[] {random.nextInt(201)}; break;
            case "meets": case "share": args = new int[] {sightingNumber(), sightingNumber()}; break;
            case "cross": args = new int[] {sightingNumber(), sightingNumber(), random.nextInt(7)}; break;
            case "curtains": case "ways": args = new int[] {night()}; break;
            case "curtain": args = new int[] {night(), random.nextInt(6), random.nextInt(6)}; break;
            case "next": args = new int[] {night(), random.nextInt(4)}; break;
            case "overhead": args = new int[] {night(), random.nextInt(4), stationNumber()}; break;
            case "colour": case "lean": case "curtainOf": args = new int[] {sightingNumber()}; break;
            case "speed": args = new int[] {1 + random.nextInt(60)}; break;
            case "watch": args = new int[] {stationNumber(), night(), random.nextInt(25), random.nextInt(9),
                random.nextInt(9)}; break;
            case "seen": args = new int[] {stationNumber(), night()}; break;
            case "rate": args = new int[] {stationNumber() - 1, random.nextInt(200), 100 + random.nextInt(300),
                random.nextInt(4)}; break;
            case "round": args = new int[] {20 + random.nextInt(21)}; break;
            case "mended": args = new int[] {stationNumber(), random.nextInt(2)}; break;
            case "moved": args = new int[] {stationNumber()}; break;
            case "count": args = new int[] {random.nextInt(5)}; break;
            case "sheet": args = new int[] {random.nextInt(4), random.nextInt(3), random.nextInt(40) - 2}; break;
            case "drop": args = new int[] {random.nextInt(4)}; break;
            case "item": args = new int[] {random.nextInt(4), 0, random.nextInt(20), random.nextInt(100000) - 50000}; break;
            case "arcs": args = new int[] {random.nextInt(4), 0, random.nextInt(8) - 1, random.nextInt(3)}; break;
            default: break;
        }
        if (name.equals("item") || name.equals("arcs")) {
            args[1] = random.nextInt(6) == 0 ? random.nextInt(3) : lanes[args[0]];
        }
        if (n > 0 && random.nextInt(12) == 0) args[random.nextInt(n)] = WILD[random.nextInt(WILD.length)];
        return args;
    }

    private int[] clock() {
        int low = random.nextInt(16) - 8;
        int high = low + random.nextInt(12) - 1;
        return random.nextInt(8) == 0 ? new int[] {stationNumber(), random.nextInt(122) - 61, random.nextInt(122) - 61}
            : new int[] {stationNumber(), low, high};
    }

    private int night() {
        return random.nextInt(12) == 0 ? random.nextInt(400) : nights[random.nextInt(nights.length)];
    }

    private int stationNumber() {
        return random.nextInt(stations.size());
    }

    private int sightingNumber() {
        return random.nextInt(Math.max(1, model.count(1) + (random.nextInt(9) == 0 ? 1 : 0)));
    }

    /** Mostly of one of a few lights that move on, so that sightings cross and curtains follow one another. */
    private int[] sighting(int n) {
        int station = stationNumber();
        int time = random.nextInt(timeCount);
        int light = random.nextInt(lightCount);
        double dx = lights[light][0] + 60 * time - stations.get(station)[0];
        double dy = lights[light][1] - 40 * time - stations.get(station)[1];
        int bearing = (int) Math.floorMod(Math.round(Math.toDegrees(Math.atan2(dx, dy))), 360L);
        long up = Math.round(Math.toDegrees(Math.atan2(lightHeights[light], Math.hypot(dx, dy))));
        int height = (int) Math.max(2, Math.min(88, up));
        int[] all = {station, night(), 300 + 15 * time + random.nextInt(5), bearing, height, random.nextInt(5),
            random.nextInt(91) - 45};
        if (random.nextInt(10) == 0) all[3] = random.nextInt(360);
        if (random.nextInt(10) == 0) all[4] = 2 + random.nextInt(87);
        if (random.nextInt(20) == 0) all[2] = random.nextInt(1440);
        int[] args = new int[n];
        System.arraycopy(all, 0, args, 0, n);
        return args;
    }
}
