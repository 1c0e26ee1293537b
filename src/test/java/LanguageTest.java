import java.lang.reflect.Array;
import java.lang.reflect.Constructor;
import java.lang.reflect.Field;
import java.lang.reflect.Method;
import java.lang.reflect.Modifier;
import java.nio.charset.StandardCharsets;
import java.nio.file.Files;
import java.nio.file.Path;
import java.util.ArrayDeque;
import java.util.Arrays;
import java.util.Collections;
import java.util.Deque;
import java.util.IdentityHashMap;
import java.util.Map;
import java.util.Set;
import java.util.TreeMap;
import java.util.TreeSet;
import java.util.regex.Matcher;
import java.util.regex.Pattern;

/** What can be seen of LANGUAGE.md's rules in the source and in the compiled class, and the document's face. */
public final class LanguageTest {
    private static final String[] FACE = {
        "int row(int,int)", "int lay(int,int,int)", "int at(int,int)", "int tear(int)", "int copy(int,int,int,int,int)",
        "int mean(int)", "int text(int,int)", "int put(int,int,int)", "int fault(int)", "int bridge(int)", "int basin(int)",
        "int gate(int,int)", "int mark(int,int)", "int turn()", "int wind(int)", "int rain(int,int)", "int draw(int,int)",
        "int undo(int)", "int keep(int)", "int on(int)", "int flows(int,int,int,int)", "int level(int,int)", "int stops()",
        "int high(int,int,int)", "int even(int)", "int opens(int,int)", "int sure(int,int)", "int next(int,int)",
        "int widths(int,int,int)", "int kinds(int,int,int)", "int sets(int)", "int surely(int)", "int duel(int)",
        "int odds(int,int,int)", "int mid(int,int)", "int lots(int,int)", "int asked()", "long upper()", "long lower()",
        "int count(int)", "int finding()", "int findings(int)", "long digest()"};

    public static void main(String[] args) throws Exception {
        face();
        constants();
        classesInside();
        words();
        newOnlyAtTheStart();
        depth();
        room();
        Due.end();
    }

    private static void holds(String what, boolean so) {
        Due.is(what, so ? 1 : 0, 1);
    }

    private static void face() {
        TreeSet<String> open = new TreeSet<>();
        TreeSet<String> names = new TreeSet<>();
        for (Method method : SluiceLevels.class.getDeclaredMethods()) {
            if (Modifier.isPublic(method.getModifiers())) {
                String types = String.join(",", Arrays.stream(method.getParameterTypes()).map(Class::getName).toList());
                open.add(method.getReturnType() + " " + method.getName() + "(" + types + ")");
                names.add(method.getName());
            }
        }
        holds("the face, rule 1: " + open, open.equals(new TreeSet<>(Arrays.asList(FACE))));
        for (Method method : SluiceLevels.class.getDeclaredMethods()) {
            int is = method.getModifiers();
            boolean hidden = Modifier.isPrivate(is) && !names.contains(method.getName());
            holds("rule 1: " + method, method.isSynthetic() || Modifier.isPublic(is) || hidden);
            holds("rule 11: " + method, method.getParameterCount() <= 7);
        }
        Constructor<?>[] made = SluiceLevels.class.getDeclaredConstructors();
        holds("one public constructor", made.length == 1 && Modifier.isPublic(made[0].getModifiers()) && made[0].getParameterCount() == 0);
        holds("public and final", Modifier.isFinal(SluiceLevels.class.getModifiers()));
    }

    private static void constants() {
        Due.is("BAD", SluiceLevels.BAD, -1);
        Due.is("FULL", SluiceLevels.FULL, -2);
        Due.is("FINDING", SluiceLevels.FINDING, -3);
        Due.is("STATE", SluiceLevels.STATE, -4);
        Due.is("SPENT", SluiceLevels.SPENT, -6);
        Due.is("NONE", SluiceLevels.NONE, -9);
        int open = 0;
        for (Field field : SluiceLevels.class.getDeclaredFields()) {
            open += Modifier.isPrivate(field.getModifiers()) ? 0 : 1;
        }
        Due.is("open fields, rule 1", open, 6);
    }

    private static void classesInside() {
        Class<?>[] inside = SluiceLevels.class.getDeclaredClasses();
        holds("rule 11: classes", inside.length <= 11);
        looksAtFields(SluiceLevels.class);
        for (Class<?> one : inside) {
            int is = one.getModifiers();
            holds("rule 2: " + one, Modifier.isStatic(is) && !Modifier.isPublic(is) && !Modifier.isProtected(is));
            looksAtFields(one);
        }
    }

    private static void looksAtFields(Class<?> one) {
        int fields = 0;
        for (Field field : one.getDeclaredFields()) {
            boolean still = Modifier.isStatic(field.getModifiers());
            fields += still ? 0 : 1;
            holds("rule 5: " + field, !still || Modifier.isFinal(field.getModifiers()));
        }
        holds("rule 11: fields of " + one, fields <= 20);
    }

    private static String source() throws Exception {
        return Files.readString(Path.of("src/main/java/SluiceLevels.java"), StandardCharsets.UTF_8);
    }

    private static void words() throws Exception {
        String source = source();
        String bare = source.replaceAll("(?s)/\\*.*?\\*/", "").replaceAll("//[^\n]*", "");
        String[] banned = {"throw", "throws", "try", "catch", "synchronized", "assert", "package", "import", "goto", "volatile",
            "instanceof", "double", "float", "Object", "hashCode", "equals", "toString", "Exact", "System.(?!arraycopy)\\w+", "true\\s*\\)\\s*\\{"};
        for (String word : banned) {
            holds("no " + word, !Pattern.compile("\\b" + word + (word.endsWith("{") ? "" : "\\b")).matcher(bare).find());
        }
        holds("no lambda, no method reference", !bare.contains("->") && !bare.contains("::"));
        holds("signs of 1 to 127", source.chars().allMatch(c -> c > 0 && c < 128));
        for (String body : bare.split("\n *\\}\n\n")) {
            holds("rule 11: short methods: " + body, body.lines().count() <= 60);
        }
    }

    /** Nothing is made behind the constructors, so that calls take no room. */
    private static void newOnlyAtTheStart() throws Exception {
        for (String line : source().split("\n")) {
            if (line.matches(".*\\bnew\\b.*\\(.*|.*\\bnew\\b.*\\[.*")) {
                boolean field = line.matches(" +(private )?final [A-Za-z]+(\\[\\])? \\w+ = new .*");
                boolean inConstructor = line.matches(" +\\w+(\\[\\w\\])? = new \\w+[(\\[]\\w*[)\\]];");
                holds("made at the start: " + line, field || inConstructor);
            }
        }
    }

    /**
     * Rules 8, 11: by the names of methods how deep calls go, the library's own counted too; none comes back to itself.
     * takeFrom() alone hands on to another class's method of its name.
     */
    private static void depth() throws Exception {
        Map<String, Set<String>> calls = callsByName(source());
        for (String name : calls.keySet()) {
            int deep = depthOf(name, calls, new ArrayDeque<>());
            holds("rule 11: " + name + "() goes " + deep + " deep", deep <= 8);
        }
        holds("rule 11: methods seen: " + calls.size(), calls.size() >= FACE.length + 30);
        holds("rule 11: calls within calls are seen", depthOf("even", calls, new ArrayDeque<>()) >= 5);
    }

    private static Map<String, Set<String>> callsByName(String source) {
        Map<String, Set<String>> calls = new TreeMap<>();
        Matcher method = Pattern.compile("(?m)^( {4}| {8})(?:(?:public|private|static) )*[\\w\\[\\]]+ (\\w+)\\([^()]*\\) \\{\n((?s).*?)\n\\1\\}$").matcher(source);
        while (method.find()) {
            String name = method.group(2);
            Set<String> those = calls.computeIfAbsent(name, n -> new TreeSet<>());
            Matcher call = Pattern.compile("\\b(\\w+)\\(").matcher(method.group(3));
            while (call.find()) {
                those.add(call.group(1));
            }
            those.removeAll(Set.of("if", "for", "while", "switch", "return"));
            if (name.equals("takeFrom")) {
                those.remove(name);
            }
        }
        return calls;
    }

    private static int depthOf(String name, Map<String, Set<String>> calls, Deque<String> above) {
        if (above.contains(name)) {
            holds("rule 8: " + name + "() comes back to itself: " + above, false);
            return 1000;
        }
        above.push(name);
        int deepest = 0;
        for (String one : calls.getOrDefault(name, Set.of())) {
            deepest = Math.max(deepest, depthOf(one, calls, above));
        }
        above.pop();
        return deepest + 1;
    }

    /** How many objects and arrays one object is made of, and how many fields and elements these have: no more behind its calls. */
    private static void room() throws Exception {
        SluiceLevels x = new SluiceLevels();
        int[] ahead = roomOf(x);
        holds("objects and arrays of one: " + ahead[0], ahead[0] <= 100);
        holds("fields and elements of one: " + ahead[1], ahead[1] <= 4000);
        Due.write(x, 0, "h40g5110s3125p2107w4030l6119e1102");
        x.bridge(0);
        Due.fill(x, 0, 35);
        x.lots(20, 1);
        x.keep(2);
        x.undo(0);
        x.opens(0, 0);
        x.next(0, 0);
        x.duel(2);
        x.mid(6, 5);
        x.on(2);
        int[] behind = roomOf(x);
        Due.is("objects and arrays behind its calls", behind[0], ahead[0]);
        Due.is("fields and elements behind its calls", behind[1], ahead[1]);
    }

    private static int[] roomOf(Object first) throws Exception {
        Set<Object> seen = Collections.newSetFromMap(new IdentityHashMap<>());
        Deque<Object> left = new ArrayDeque<>();
        left.add(first);
        int parts = 0;
        while (!left.isEmpty()) {
            Object one = left.remove();
            if (!seen.add(one)) {
                continue;
            }
            int length = one.getClass().isArray() ? Array.getLength(one) : 0;
            parts += length;
            for (int i = 0; i < length && one instanceof Object[]; i++) {
                left.add(Array.get(one, i));
            }
            for (Field field : one.getClass().getDeclaredFields()) {
                if (!Modifier.isStatic(field.getModifiers())) {
                    parts++;
                    field.setAccessible(true);
                    if (!field.getType().isPrimitive() && field.get(one) != null) {
                        left.add(field.get(one));
                    }
                }
            }
        }
        return new int[] {seen.size(), parts};
    }
}
