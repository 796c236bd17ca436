import java.io.IOException;
import java.nio.file.DirectoryStream;
import java.nio.file.Files;
import java.nio.file.Path;
import java.util.ArrayList;
import java.util.List;
import java.util.Map;
import java.util.TreeMap;
import java.util.regex.Matcher;
import java.util.regex.Pattern;

/**
 * Each test of the Edges*Test.java says in its first line which words of the document it is for; the words stand there,
 * and every word of the promises and of "Terms" is held by a test that is run.
 */
public final class SentencesTest {
    private static final Due DUE = new Due("SentencesTest");
    private static final String TERMS = "terms", INTRO = "intro";
    private static final Pattern METHOD =
            Pattern.compile("private static void (\\w+)\\(\\) \\{\\n(.*?)\\n    \\}", Pattern.DOTALL);
    private static final Pattern FIRST_LINE =
            Pattern.compile("^\\s*DUE\\.(promise|terms|intro)\\((?:(\\d+), )?((?:\"[^\"]*\"[\\s+]*)+)\\);");

    public static void main(String[] args) throws IOException {
        Map<String, List<String>> words = new TreeMap<>();
        int files = 0;
        try (DirectoryStream<Path> tests = Files.newDirectoryStream(Path.of("src/test/java"), "Edges*Test.java")) {
            for (Path test : tests) {
                files++;
                read(test.getFileName().toString(), Files.readString(test), words);
            }
        }
        DUE.is("files of edges", files, 6);
        Path document = Path.of(args.length > 0 ? args[0] : "../shared/DOC.md");
        if (Files.exists(document)) {
            hold(texts(Files.readString(document)), words);
        } else {
            System.out.println("SentencesTest: no " + document + " to hold the tests' words against");
        }
        DUE.end();
    }

    private static void hold(Map<String, String> texts, Map<String, List<String>> words) {
        DUE.is("promises, terms and what it is", texts.size(), 37);
        words.forEach((place, said) -> said.forEach(w -> DUE.holds(place + " says: " + w,
                texts.getOrDefault(place, "").contains(w))));
        texts.forEach((place, text) -> {
            if (!place.equals(INTRO)) {
                allIsHeld(place, text, words.getOrDefault(place, List.of()));
            }
        });
    }

    /** What each promise says behind its signature, what "Terms" say, what it is. */
    private static Map<String, String> texts(String document) {
        Map<String, String> texts = new TreeMap<>();
        Matcher m = Pattern.compile("## Promise (\\d+): [^\\n]*\\n\\n`[^`]*`: ([^\\n]*)\\n").matcher(document);
        while (m.find()) {
            texts.put(m.group(1), m.group(2));
        }
        texts.put(TERMS, between(document, "## Terms\n", "\nAhead of the calls").replaceAll("={8} \\d|```text|```", ""));
        texts.put(INTRO, between(document, "## What it is\n", "## The public face"));
        return texts;
    }

    private static String between(String all, String begin, String end) {
        int from = all.indexOf(begin) + begin.length();
        return all.substring(from, all.indexOf(end, from));
    }

    private static void read(String file, String source, Map<String, List<String>> words) {
        String main = between(source, "public static void main(String[] args) {", "\n    }\n");
        Matcher method = METHOD.matcher(source);
        int seen = 0;
        while (method.find()) {
            seen++;
            String test = file + ", " + method.group(1);
            DUE.holds(test + " is run", main.contains("        " + method.group(1) + "();\n"));
            Matcher first = FIRST_LINE.matcher(method.group(2));
            boolean says = first.find();
            DUE.holds(test + " says in its first line what it is for", says);
            if (says) {
                String place = first.group(1).equals("promise") ? first.group(2) : first.group(1);
                String said = first.group(3).replaceAll("\"[\\s+]*\"", "").replaceAll("^\"|\"[\\s+]*$", "");
                words.computeIfAbsent(place, k -> new ArrayList<>()).add(said);
            }
        }
        DUE.holds(file + " has tests: " + seen, seen > 10);
    }

    private static void allIsHeld(String place, String text, List<String> said) {
        boolean[] held = new boolean[text.length()];
        for (String words : said) {
            for (int at = text.indexOf(words); at >= 0; at = text.indexOf(words, at + 1)) {
                java.util.Arrays.fill(held, at, at + words.length(), true);
            }
        }
        StringBuilder left = new StringBuilder();
        for (int i = 0; i < held.length; i++) {
            left.append(held[i] || !Character.isLetterOrDigit(text.charAt(i)) ? ' ' : text.charAt(i));
        }
        String words = left.toString().trim().replaceAll("\\s+", " ");
        DUE.holds(place + ": no test is for: " + words, words.isEmpty());
    }
}
