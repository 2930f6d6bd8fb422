import java.lang.reflect.Constructor;
import java.lang.reflect.Field;
import java.lang.reflect.Method;
import java.lang.reflect.Modifier;
import java.nio.file.Files;
import java.nio.file.Path;
import java.util.ArrayList;
import java.util.List;
import java.util.Map;
import java.util.Set;
import java.util.TreeMap;
import java.util.TreeSet;
import java.util.regex.Matcher;
import java.util.regex.Pattern;

/** The public face, and the rules of LANGUAGE.md that the text or the compiled class shows. */
public final class LanguageTest {
    private static final Due due = new Due("LanguageTest");
    private static final Path SOURCE = Path.of("src/main/java/NorthCurtains.java");
    private static final String[] FACE = {"station 2", "clock 3", "glow 5", "arc 6", "ray 7", "told 2", "colour 1",
        "lean 1", "table 2", "thick 1", "meets 2", "cross 3", "curtains 1", "curtain 3", "curtainOf 1", "speed 1",
        "ways 1", "next 2", "overhead 3", "watch 5", "seen 2", "rate 4", "round 1", "best 0", "share 2", "mended 2",
        "moved 1", "count 1", "sheet 3", "drop 1", "item 4", "arcs 4"};
    private static final String[] CONSTANTS = {"BAD -1", "NOT -2", "FULL -3", "NONE -4", "NULL -11", "CAST -12",
        "INDEX -13", "SIZE -14"};
    private static final String[] BANNED = {"\\bimport\\b", "\\bpackage\\b", "->", "::", "\\bfinally\\b", "\\btry\\b",
        "\\bcatch\\b", "\\bsynchronized\\b", "\\bassert\\b", "\\bSystem\\.(?!arraycopy)", "\\bObject\\b", "\\bvar\\b",
        "\\bnative\\b", "\\bThread\\b", "\\b\\w+Exact\\b", "@", "\\bstatic\\s*\\{", "\\bhashCode\\b", "\\btoString\\b",
        "\\brandom\\b", "\\bdouble\\b", "\\bfloat\\b"};

    public static void main(String[] args) throws Exception {
        face();
        constants();
        members();
        statics();
        words();
        library();
        methods();
        due.end();
    }

    private static void face() {
        Set<String> want = new TreeSet<>(List.of(FACE));
        Set<String> got = new TreeSet<>();
        for (Method m : NorthCurtains.class.getDeclaredMethods()) {
            if (!Modifier.isPrivate(m.getModifiers()) && !m.isSynthetic()) {
                got.add(m.getName() + " " + m.getParameterCount());
                due.holds(m + " is a public int", Modifier.isPublic(m.getModifiers()) && m.getReturnType() == int.class
                    && !Modifier.isStatic(m.getModifiers()));
                for (Class<?> type : m.getParameterTypes()) {
                    due.holds(m + " takes ints", type == int.class);
                }
            }
        }
        due.holds("the face is " + got, got.equals(want));
        Constructor<?>[] made = NorthCurtains.class.getDeclaredConstructors();
        due.holds("one public constructor", made.length == 1 && Modifier.isPublic(made[0].getModifiers())
            && made[0].getParameterCount() == 0);
        due.is("modifiers", NorthCurtains.class.getModifiers(), Modifier.PUBLIC | Modifier.FINAL);
    }

    private static void constants() throws Exception {
        Set<String> got = new TreeSet<>();
        for (Field f : NorthCurtains.class.getDeclaredFields()) {
            int m = f.getModifiers();
            due.holds(f + " is private or public", Modifier.isPrivate(m) || Modifier.isPublic(m));
            due.holds(f + " is static only if final", !Modifier.isStatic(m) || Modifier.isFinal(m));
            if (Modifier.isPublic(m)) {
                got.add(f.getName() + " " + f.getInt(null));
            }
        }
        due.holds("the constants are " + got, got.equals(new TreeSet<>(List.of(CONSTANTS))));
    }

    private static void members() {
        Set<String> names = new TreeSet<>();
        for (String f : FACE) {
            names.add(f.substring(0, f.indexOf(' ')));
        }
        Class<?>[] inner = NorthCurtains.class.getDeclaredClasses();
        due.holds("few classes", inner.length <= 11);
        for (Class<?> c : inner) {
            due.holds(c + " is static and not public", Modifier.isStatic(c.getModifiers())
                && !Modifier.isPublic(c.getModifiers()) && !Modifier.isProtected(c.getModifiers()));
            for (Method m : c.getDeclaredMethods()) {
                due.holds(m + " bears no public name", !names.contains(m.getName()));
            }
        }
        for (Method m : NorthCurtains.class.getDeclaredMethods()) {
            due.holds(m + " bears no public name", Modifier.isPublic(m.getModifiers()) || !names.contains(m.getName()));
        }
        List<Class<?>> all = new ArrayList<>(List.of(inner));
        all.add(NorthCurtains.class);
        for (Class<?> c : all) {
            int fields = 0;
            for (Field f : c.getDeclaredFields()) {
                fields += Modifier.isStatic(f.getModifiers()) ? 0 : 1;
            }
            due.holds(c + " has few fields", fields <= 20);
        }
    }

    /** Rule 5: no static state; what stands written out may be an array. */
    private static void statics() {
        Set<Class<?>> allowed = Set.of(int.class, long.class, boolean.class, char.class, String.class, int[].class,
            long[].class, char[].class, byte[].class);
        List<Class<?>> all = new ArrayList<>(List.of(NorthCurtains.class.getDeclaredClasses()));
        all.add(NorthCurtains.class);
        for (Class<?> c : all) {
            for (Field f : c.getDeclaredFields()) {
                due.holds(f + " is a constant", !Modifier.isStatic(f.getModifiers())
                    || Modifier.isFinal(f.getModifiers()) && allowed.contains(f.getType()));
            }
        }
    }

    /** Rule 4: of the library nothing but whole-number functions of Math; all other names are the class's own. */
    private static void library() throws Exception {
        Set<String> own = new TreeSet<>(Set.of("NorthCurtains"));
        for (Class<?> c : NorthCurtains.class.getDeclaredClasses()) {
            own.add(c.getSimpleName());
        }
        Set<String> functions = Set.of("max", "min", "abs", "floorDiv", "floorMod");
        Matcher m = Pattern.compile("\\b([A-Z]\\w*[a-z]\\w*)(?:\\.(\\w+))?").matcher(code());
        while (m.find()) {
            due.holds("a name of the library: " + m.group(), own.contains(m.group(1))
                || m.group(1).equals("Math") && functions.contains(m.group(2)));
        }
    }

    private static String code() throws Exception {
        String text = Files.readString(SOURCE);
        return text.replaceAll("(?s)/\\*.*?\\*/", "").replaceAll("//[^\n]*", "");
    }

    private static void words() throws Exception {
        String code = code();
        for (String banned : BANNED) {
            Matcher m = Pattern.compile(banned).matcher(code);
            due.holds("no " + banned, !m.find());
        }
        for (char c : Files.readString(SOURCE).toCharArray()) {
            due.holds("plain signs", c == '\n' || c >= 32 && c < 127);
        }
    }

    /** The text of each method and constructor by its name, from its head at a line's end to the brace that closes it. */
    private static Map<String, String> bodies() throws Exception {
        String[] lines = code().split("\n");
        Pattern head = Pattern.compile("^( {4}| {8})(public |private |static |final )*[\\w\\[\\]]+ ?(\\w*)\\(([^)]*)\\) \\{$");
        Map<String, String> found = new TreeMap<>();
        for (int i = 0; i < lines.length; i++) {
            Matcher m = head.matcher(lines[i]);
            if (m.find() && !lines[i].trim().matches("(if|for|while|switch) .*")) {
                int end = i;
                StringBuilder body = new StringBuilder();
                while (end < lines.length && !lines[end].equals(m.group(1) + "}")) {
                    end++;
                    body.append(end < lines.length ? lines[end] : "").append('\n');
                }
                due.holds("short: " + lines[i].trim(), end - i <= 60);
                due.holds("few parameters: " + lines[i].trim(), m.group(4).split(",").length <= 7);
                String name = m.group(3).isEmpty() ? lines[i].trim().replaceAll("^public |\\(.*", "") : m.group(3);
                found.merge(name, body.toString(), String::concat);
            }
        }
        return found;
    }

    /** Like names of several classes count as one method, so what is found is never less than what is. */
    private static void methods() throws Exception {
        Map<String, String> bodies = bodies();
        due.holds("methods are found: " + bodies.size(), bodies.size() > 60);
        for (String f : FACE) {
            String name = f.substring(0, f.indexOf(' '));
            due.holds("the face is found: " + name, bodies.containsKey(name));
            int deep = deepest(name, bodies, new ArrayList<>());
            due.holds(name + " goes at most eight deep: " + deep, deep <= 8);
        }
    }

    /** How many calls stand open at most; one that is open already is a recursion. */
    private static int deepest(String name, Map<String, String> bodies, List<String> open) {
        open.add(name);
        int most = 0;
        for (String other : bodies.keySet()) {
            boolean calls = Pattern.compile("\\b" + other + "\\(").matcher(bodies.get(name)).find();
            if (calls && !open.contains(other)) {
                most = Math.max(most, deepest(other, bodies, open));
            }
        }
        open.remove(open.size() - 1);
        return most + 1;
    }
}
