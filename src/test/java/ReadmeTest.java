import java.io.File;
import java.io.IOException;
import java.lang.reflect.Method;
import java.lang.reflect.Modifier;
import java.nio.file.DirectoryStream;
import java.nio.file.Files;
import java.nio.file.Path;
import java.util.List;
import java.util.TreeSet;
import java.util.regex.Matcher;
import java.util.regex.Pattern;
import javax.tools.JavaCompiler;
import javax.tools.ToolProvider;

/** README.md holds: its program prints the numbers behind its lines, it tells of every call and of every test. */
public final class ReadmeTest {
    private static final Due DUE = new Due("ReadmeTest");
    private static final Pattern PROGRAM = Pattern.compile("```java\\n(public final class (\\w+) .*?)```", Pattern.DOTALL);
    private static final Pattern SAID = Pattern.compile("say\\(.*\\); +// (-?\\d+)");

    public static void main(String[] args) throws Exception {
        String readme = Files.readString(Path.of(args.length > 0 ? args[0] : "README.md"));
        Matcher program = PROGRAM.matcher(readme);
        DUE.holds("there is a program", program.find());
        printsWhatItSays(program.group(2), program.group(1));
        tellsOfEveryCall(readme.substring(readme.indexOf("### The calls"), readme.indexOf("### What is refused")));
        tellsOfEveryTest(readme.substring(readme.indexOf("## How to run its tests")));
        DUE.end();
    }

    private static void printsWhatItSays(String name, String source) throws Exception {
        List<String> said = SAID.matcher(source).results().map(r -> r.group(1)).toList();
        DUE.holds("every line that says has its number", said.size() == source.split("say\\(").length - 2);
        List<String> printed = printed(name, source);
        DUE.is("lines that are printed", printed.size(), said.size());
        for (int i = 0; i < said.size() && i < printed.size(); i++) {
            DUE.is("line " + i, Long.parseLong(printed.get(i)), Long.parseLong(said.get(i)));
        }
    }

    private static List<String> printed(String name, String source) throws Exception {
        Path room = Files.createTempDirectory("readme");
        try {
            Path file = Files.writeString(room.resolve(name + ".java"), source);
            String classes = System.getProperty("java.class.path");
            JavaCompiler compiler = ToolProvider.getSystemJavaCompiler();
            int failed = compiler.run(null, null, null, "-cp", classes, "-d", room.toString(), file.toString());
            DUE.is("javac of the program", failed, 0);
            String java = Path.of(System.getProperty("java.home"), "bin", "java").toString();
            Process run = new ProcessBuilder(java, "-cp", classes + File.pathSeparator + room, name)
                    .redirectErrorStream(true).start();
            return new String(run.getInputStream().readAllBytes()).lines().toList();
        } finally {
            empty(room);
        }
    }

    private static void empty(Path room) throws IOException {
        try (DirectoryStream<Path> files = Files.newDirectoryStream(room)) {
            for (Path file : files) {
                Files.delete(file);
            }
        }
        Files.delete(room);
    }

    private static void tellsOfEveryCall(String part) {
        for (Method m : GateRoad.class.getDeclaredMethods()) {
            if (Modifier.isPublic(m.getModifiers())) {
                DUE.holds("tells of " + m.getName(), Pattern.compile("`" + m.getName() + "[(`]").matcher(part).find());
            }
        }
        Matcher call = Pattern.compile("`(\\w+)\\(([^)]*)\\)`").matcher(part);
        while (call.find()) {
            int takes = call.group(2).isEmpty() ? 0 : call.group(2).split(",").length;
            DUE.holds(call.group() + " is so", isOfTheFace(call.group(1), takes));
        }
    }

    private static boolean isOfTheFace(String name, int takes) {
        for (Method m : GateRoad.class.getDeclaredMethods()) {
            if (Modifier.isPublic(m.getModifiers()) && m.getName().equals(name) && m.getParameterCount() == takes) {
                return true;
            }
        }
        return false;
    }

    private static void tellsOfEveryTest(String part) throws IOException {
        TreeSet<String> there = new TreeSet<>();
        try (DirectoryStream<Path> tests = Files.newDirectoryStream(Path.of("src/test/java"), "*Test.java")) {
            for (Path test : tests) {
                there.add(test.getFileName().toString().replace(".java", ""));
            }
        }
        TreeSet<String> told = new TreeSet<>();
        Pattern.compile("`(\\w+Test)`").matcher(part).results().forEach(r -> told.add(r.group(1)));
        DUE.holds("tells of the tests that there are: " + told + ", " + there, told.equals(there));
    }
}
