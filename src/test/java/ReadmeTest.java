import java.io.ByteArrayOutputStream;
import java.lang.reflect.Method;
import java.lang.reflect.Modifier;
import java.net.URL;
import java.net.URLClassLoader;
import java.nio.file.Files;
import java.nio.file.Path;
import java.util.ArrayList;
import java.util.Comparator;
import java.util.List;
import java.util.regex.Matcher;
import java.util.regex.Pattern;
import java.util.stream.Stream;
import javax.tools.ToolProvider;

/** README.md: its lines of Java compile and answer what it says, and its words are the document's. */
public final class ReadmeTest {
    private static final Path README = Path.of("README.md");
    private static final Path DOCUMENT = Path.of("../shared/DOC.md");
    private static final Path TESTS = Path.of("src/test/java");
    private static final Pattern PROMISE = Pattern.compile("## Promise \\d+: .*\\n\\n(`[^`]+`): (.+)\\n");
    private static final int PROMISES = 20;

    private static boolean compiles(Path folder, Path program, String[] said) {
        ByteArrayOutputStream out = new ByteArrayOutputStream();
        int code = ToolProvider.getSystemJavaCompiler().run(null, out, out, "--release", "17", "-Xlint:all", "-Werror",
            "-cp", System.getProperty("java.class.path"), "-d", folder.toString(), program.toString());
        said[0] = out.toString();
        return code == 0;
    }

    private static List<String> answers(Path folder) throws Exception {
        List<String> answers = new ArrayList<>();
        try (URLClassLoader loader = new URLClassLoader(new URL[] {folder.toUri().toURL()})) {
            Object list = loader.loadClass(Boxes.PROGRAM).getMethod("answers").invoke(null);
            for (Object answer : (List<?>) list) {
                answers.add((String) answer);
            }
        }
        return answers;
    }

    private static void remove(Path folder) throws Exception {
        try (Stream<Path> paths = Files.walk(folder)) {
            for (Path path : paths.sorted(Comparator.reverseOrder()).toList()) {
                Files.delete(path);
            }
        }
    }

    /** What is wrong with the boxes of a text, a line for each fault. */
    private static List<String> faultsOf(Boxes boxes) throws Exception {
        List<String> faults = new ArrayList<>();
        boxes.unsaid().forEach(line -> faults.add("line " + line.number() + " says no answer: " + line.statement()));
        Path folder = Files.createTempDirectory("boxes");
        try {
            Path program = Files.writeString(folder.resolve(Boxes.PROGRAM + ".java"), boxes.program());
            String[] said = {""};
            if (compiles(folder, program, said)) {
                List<Boxes.Line> lines = boxes.lines();
                lines.removeIf(line -> line.answer() == null);
                faults.addAll(wrongOf(lines, answers(folder)));
            } else {
                faults.add("does not compile: " + said[0]);
            }
        } finally {
            remove(folder);
        }
        return faults;
    }

    private static List<String> wrongOf(List<Boxes.Line> lines, List<String> answers) {
        List<String> faults = new ArrayList<>();
        for (int i = 0; i < lines.size(); i++) {
            Boxes.Line line = lines.get(i);
            if (!line.answer().equals(answers.get(i))) {
                faults.add("line " + line.number() + ": " + line.statement() + " answered " + answers.get(i)
                    + ", README.md says " + line.answer());
            }
        }
        return faults;
    }

    /** A box whose first line is not just so would be shown and not looked at. */
    private static void everyBoxIsFound(String readme, Boxes boxes) {
        Check.due("signs of a box", readme.split("```", -1).length - 1, 2L * boxes.count());
    }

    private static void linesAnswerWhatIsSaid(Boxes boxes) throws Exception {
        List<String> faults = faultsOf(boxes);
        Check.due("faults of the lines of Java " + faults, faults.size(), 0);
    }

    private static void everyMethodIsShown(Boxes boxes) {
        StringBuilder text = new StringBuilder();
        boxes.lines().forEach(line -> text.append(line.statement()).append('\n'));
        Check.due("README.md shows new FarLink", text.indexOf("new FarLink(") >= 0, true);
        for (Method method : FarLink.class.getDeclaredMethods()) {
            if (Modifier.isPublic(method.getModifiers())) {
                String call = "." + method.getName() + "(";
                Check.due("README.md shows " + method.getName(), text.indexOf(call) >= 0, true);
            }
        }
    }

    /** Breaks of lines and the signs of a quotation don't count. */
    private static String plain(String text) {
        return text.replaceAll("(?m)^> ?", "").replaceAll("\\s+", " ");
    }

    private static void wordsAreTheDocuments(String readme, String document) {
        String words = plain(readme);
        int promises = 0;
        Matcher promise = PROMISE.matcher(document);
        while (promise.find()) {
            promises++;
            Check.due("README.md has " + promise.group(1), words.contains(promise.group(1)), true);
            String rule = plain(promise.group(2));
            Check.due("README.md says: " + rule, words.contains(promise.group(1) + " " + rule), true);
        }
        Check.due("promises in the document", promises, PROMISES);
        for (String start : new String[] {"An object is used for at most 512 calls", "A call that is refused changes nothing."}) {
            int from = document.indexOf("\n" + start) + 1;
            String rule = plain(document.substring(from, document.indexOf('\n', from)));
            Check.due("README.md says: " + rule, rule.startsWith(start) && words.contains(rule), true);
        }
    }

    private static void everyTestIsNamed(String readme) throws Exception {
        try (Stream<Path> files = Files.list(TESTS)) {
            for (Path file : files.toList()) {
                String name = file.getFileName().toString().replace(".java", "");
                Check.due("README.md names " + name, readme.contains("`" + name + "`"), true);
            }
        }
    }

    private static String box(String... lines) {
        return "words\n\n```java\nFarLink link = new FarLink(1);\n" + String.join("\n", lines) + "\n```\n\nwords\n";
    }

    private static void faultOf(String what, String fault, String text) throws Exception {
        List<String> faults = faultsOf(new Boxes(text));
        Check.due(what + ": " + faults, faults.size() == 1 && faults.get(0).contains(fault), true);
    }

    /** A look that overlooks a fault would make all the rest worth nothing. */
    private static void faultsAreSeen() throws Exception {
        List<String> none = faultsOf(new Boxes(box("link.time(); // 0", "link.noise(true, 1); // one bit",
            "boolean good = link.write(0, 0, 5); // true: word 0", "int t = link.put(0, 0, 0, true); // 0",
            "link.cancel(t); // true", "long block = link.encode(true, 0); // 127", "link.decode(true, block); // 0")
            + box("link.put(9, 0, 0, true); // -1")));
        Check.due("no fault " + none, none.size(), 0);
        faultOf("a number", "line 5: link.time(); answered 0, README.md says 1", box("link.time(); // 1"));
        faultOf("a sign", "answered -1, README.md says 1", box("link.put(9, 0, 0, true); // 1"));
        faultOf("a truth", "answered true, README.md says false", box("link.write(0, 0, 1); // false"));
        faultOf("another kind", "answered true, README.md says 1", box("link.write(0, 0, 1); // 1"));
        faultOf("a name", "answered 0, README.md says 2", box("int t = link.put(0, 0, 0, true); // 2"));
        faultOf("the second box", "line 13: link.time();", box("link.time(); // 0") + box("link.time(); // 7"));
        faultOf("no answer", "line 5 says no answer", box("link.time();"));
        faultOf("words alone", "line 5 says no answer", box("link.time(); // the time"));
        faultOf("no such call", "does not compile", box("link.ask(); // 0"));
        faultOf("an answer of noise", "does not compile", box("link.noise(true, 1); // 0"));
    }

    public static void main(String[] args) throws Exception {
        faultsAreSeen();
        String readme = Files.readString(README);
        Boxes boxes = new Boxes(readme);
        everyBoxIsFound(readme, boxes);
        linesAnswerWhatIsSaid(boxes);
        everyMethodIsShown(boxes);
        wordsAreTheDocuments(readme, Files.readString(DOCUMENT));
        everyTestIsNamed(readme);
        Check.end();
    }
}
