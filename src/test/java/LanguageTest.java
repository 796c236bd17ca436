import java.lang.reflect.Field;
import java.lang.reflect.Method;
import java.lang.reflect.Modifier;
import java.nio.file.Files;
import java.nio.file.Path;
import java.util.Arrays;
import java.util.Map;
import java.util.Set;
import java.util.TreeMap;
import java.util.TreeSet;
import java.util.regex.Matcher;
import java.util.regex.Pattern;

/** Rules of LANGUAGE.md that can be read off the class and its source. */
public final class LanguageTest {
    private static final Due DUE = new Due("LanguageTest");
    private static final String FACE = "rate toll sort cart wishes gateTold sortTold feed text force way wayTold set of line"
            + " passes sum judge rest other swap beside sticks shift finest split count image back sheet cell copy rates"
            + " taken";

    public static void main(String[] args) throws Exception {
        String source = Files.readString(Path.of(args.length > 0 ? args[0] : "src/main/java/GateRoad.java"));
        String code = withoutTexts(source);
        words(code);
        face();
        inside();
        methods(code);
        depth(code);
        DUE.end();
    }

    private static String withoutTexts(String source) {
        return source.replaceAll("(?s)/\\*.*?\\*/", " ").replaceAll("//[^\n]*", " ").replaceAll("\"[^\"\n]*\"", "\"\"")
                .replaceAll("'[^'\n]+'", "' '");
    }

    private static void words(String code) {
        for (String word : "throw throws try catch finally synchronized assert package record sealed var volatile native"
                .split(" ")) {
            DUE.holds("no " + word, !Pattern.compile("\\b" + word + "\\b").matcher(code).find());
        }
        for (String sign : new String[] {"->", "::", "@", "\" +", "+ \"", "Exact", ".hashCode", ".toString", "float ",
            "double "}) {
            DUE.holds("no " + sign, !code.contains(sign));
        }
        Matcher m = Pattern.compile("import ([^;]*);").matcher(code);
        while (m.find()) {
            DUE.holds("import of " + m.group(1), m.group(1).equals("java.util.Arrays"));
        }
        Set<String> calls = new TreeSet<>();
        m = Pattern.compile("\\b(System|Arrays|Math|Integer|Long|String)\\.(\\w+)").matcher(code);
        while (m.find()) {
            calls.add(m.group());
        }
        calls.removeAll(Set.of("System.arraycopy", "Arrays.copyOf", "Arrays.copyOfRange", "Arrays.fill", "Math.max",
                "Math.min", "Integer.bitCount"));
        DUE.is("calls of the library that aren't told: " + calls, calls.size(), 0);
        for (int i = 0; i < code.length(); i++) {
            DUE.holds("sign " + i, code.charAt(i) < 128);
        }
    }

    private static void face() {
        Set<String> told = new TreeSet<>(Arrays.asList(FACE.split(" ")));
        Set<String> seen = new TreeSet<>();
        for (Method m : GateRoad.class.getDeclaredMethods()) {
            if (Modifier.isPublic(m.getModifiers())) {
                DUE.holds("of the face once: " + m.getName(), seen.add(m.getName()));
            } else {
                DUE.holds("private: " + m.getName(), Modifier.isPrivate(m.getModifiers()));
            }
        }
        DUE.holds("the face is as told: " + seen, seen.equals(told));
        for (Field f : GateRoad.class.getDeclaredFields()) {
            boolean isConstant = Set.of("NONE", "BAD", "STATE", "FULL", "NO").contains(f.getName());
            int mods = f.getModifiers();
            DUE.holds("field " + f.getName(), isConstant ? Modifier.isPublic(mods) : Modifier.isPrivate(mods));
        }
        DUE.is("constructors", GateRoad.class.getDeclaredConstructors().length, 1);
        DUE.holds("final", Modifier.isFinal(GateRoad.class.getModifiers()));
    }

    private static void inside() {
        Class<?>[] classes = GateRoad.class.getDeclaredClasses();
        DUE.holds("some twelve classes: " + classes.length, classes.length <= 12);
        Set<String> told = new TreeSet<>(Arrays.asList(FACE.split(" ")));
        ownFields(GateRoad.class);
        for (Class<?> c : classes) {
            DUE.holds("static: " + c, Modifier.isStatic(c.getModifiers()));
            DUE.holds("not public: " + c, !Modifier.isPublic(c.getModifiers()));
            DUE.is("none inside: " + c, c.getDeclaredClasses().length, 0);
            ownFields(c);
            for (Method m : c.getDeclaredMethods()) {
                DUE.holds("no name of the face: " + m, !told.contains(m.getName()));
            }
        }
        for (Method m : GateRoad.class.getDeclaredMethods()) {
            boolean isHidden = Modifier.isPrivate(m.getModifiers());
            DUE.holds("no name of the face: " + m, !isHidden || !told.contains(m.getName()));
        }
    }

    private static void ownFields(Class<?> c) {
        int own = 0;
        for (Field f : c.getDeclaredFields()) {
            if (Modifier.isStatic(f.getModifiers())) {
                DUE.holds("a static field is final: " + f, Modifier.isFinal(f.getModifiers()));
                DUE.holds("a static field's type: " + f, Set.of("int", "long", "boolean", "char", "String", "int[]",
                        "long[]", "char[]", "byte[]").contains(f.getType().getSimpleName()));
            } else {
                own++;
            }
        }
        DUE.holds("some twenty fields: " + c + " has " + own, own <= 20);
    }

    private static final Pattern METHOD = Pattern.compile(
            "(?m)^ +(?:(?:public|private|static|final) )*(?:[\\w\\[\\]]+ )?(\\w+)\\(([^)]*)\\) \\{");

    private static void methods(String code) {
        Matcher m = METHOD.matcher(code);
        int seen = 0;
        while (m.find()) {
            String name = m.group(1);
            if (Set.of("if", "for", "while", "switch").contains(name)) {
                continue;
            }
            seen++;
            int parameters = m.group(2).isBlank() ? 0 : m.group(2).split(",").length;
            DUE.holds(name + " takes " + parameters, parameters <= 7);
            long lines = code.substring(m.start(), bodyEnd(code, m.end())).lines().count();
            DUE.holds(name + " has lines: " + lines, lines <= 60);
        }
        DUE.holds("methods are seen: " + seen, seen > 100);
    }

    private static int bodyEnd(String code, int from) {
        int open = 1;
        int i = from;
        for (; i < code.length() && open > 0; i++) {
            open += code.charAt(i) == '{' ? 1 : code.charAt(i) == '}' ? -1 : 0;
        }
        return i;
    }

    private static final Set<String> READS = Set.of("readOr", "readAnd", "readNot", "readSum", "readTerm", "readOne");

    /** Calls by name (the reader's recursion counts as one), the library's left out: eight deep at most. */
    private static void depth(String code) {
        Map<String, Set<String>> callsOf = new TreeMap<>();
        Matcher m = METHOD.matcher(code);
        while (m.find()) {
            if (Set.of("if", "for", "while", "switch").contains(m.group(1))) {
                continue;
            }
            String body = code.substring(m.end(), bodyEnd(code, m.end()));
            Set<String> calls = callsOf.computeIfAbsent(knot(m.group(1)), k -> new TreeSet<>());
            Matcher call = Pattern.compile("(\\bsuper\\.)?\\b(\\w+)\\(").matcher(body);
            while (call.find()) {
                boolean isSuper = call.group(1) != null;
                calls.add(isSuper ? "super." + call.group(2) : knot(call.group(2)));
            }
        }
        callsOf.values().forEach(calls -> calls.retainAll(union(callsOf.keySet())));
        for (String name : FACE.split(" ")) {
            int deep = deep(name, callsOf, 0);
            DUE.holds(name + " goes deep: " + deep, deep <= 8);
        }
    }

    private static Set<String> union(Set<String> names) {
        Set<String> all = new TreeSet<>(names);
        names.forEach(n -> all.add("super." + n));
        return all;
    }

    private static String knot(String name) {
        return READS.contains(name) ? "readAll" : name;
    }

    private static int deep(String name, Map<String, Set<String>> callsOf, int guard) {
        if (guard > 50) {
            return 1000;
        }
        int most = 0;
        for (String call : callsOf.getOrDefault(name, Set.of())) {
            if (!call.equals(name)) {
                most = Math.max(most, deep(call, callsOf, guard + 1));
            }
        }
        return most + 1;
    }
}
