import java.util.ArrayList;
import java.util.List;
import java.util.regex.Matcher;
import java.util.regex.Pattern;

/** The boxes of Java in a text such as README.md, and the program that they make together. */
final class Boxes {
    /** A line of a box; its answer is null when none stands behind it. */
    record Line(int number, String statement, String answer) {
    }

    static final String PROGRAM = "BoxesOfJava";

    private static final Pattern LINE = Pattern.compile("(.*?;)\\s*(?://\\s*(.*))?");
    private static final Pattern ANSWER = Pattern.compile("(-?\\d+|true|false)(: .+)?");
    private static final Pattern NAMED = Pattern.compile("(?:int|long|boolean) (\\w+) = .*;");

    /** What answers nothing: the making of an object, and noise. */
    private static final Pattern SILENT = Pattern.compile("FarLink \\w+ = new FarLink\\(.*\\);|\\w+\\.noise\\(.*\\);");

    private final List<List<Line>> boxes = new ArrayList<>();

    Boxes(String text) {
        List<Line> open = null;
        int number = 0;
        for (String row : text.split("\n", -1)) {
            number++;
            if (open == null && row.equals("```java")) {
                open = new ArrayList<>();
                boxes.add(open);
            } else if (row.equals("```")) {
                open = null;
            } else if (open != null && !row.isBlank()) {
                open.add(line(number, row));
            }
        }
    }

    private static Line line(int number, String row) {
        Matcher whole = LINE.matcher(row.strip());
        if (!whole.matches()) {
            return new Line(number, row.strip(), null);
        }
        Matcher said = ANSWER.matcher(whole.group(2) == null ? "" : whole.group(2));
        return new Line(number, whole.group(1), said.matches() ? said.group(1) : null);
    }

    int count() {
        return boxes.size();
    }

    List<Line> lines() {
        List<Line> all = new ArrayList<>();
        boxes.forEach(all::addAll);
        return all;
    }

    /** Lines that ought to say what they answer and don't. */
    List<Line> unsaid() {
        List<Line> found = new ArrayList<>();
        for (Line line : lines()) {
            if (line.answer() == null && !SILENT.matcher(line.statement()).matches()) {
                found.add(line);
            }
        }
        return found;
    }

    /**
     * A class that uses nothing but FarLink, whose method answers() tells what each line that says an
     * answer did answer, in their order.
     */
    String program() {
        StringBuilder text = new StringBuilder("public final class " + PROGRAM + " {\n");
        StringBuilder calls = new StringBuilder();
        for (int i = 0; i < boxes.size(); i++) {
            text.append("private static void box").append(i).append("(java.util.List<String> answers) {\n");
            boxes.get(i).forEach(line -> text.append(statements(line)));
            text.append("}\n");
            calls.append("box").append(i).append("(answers);\n");
        }
        text.append("public static java.util.List<String> answers() {\n");
        text.append("java.util.List<String> answers = new java.util.ArrayList<>();\n");
        return text.append(calls).append("return answers;\n}\n}\n").toString();
    }

    private static String statements(Line line) {
        String statement = line.statement();
        if (line.answer() == null) {
            return statement + "\n";
        }
        Matcher named = NAMED.matcher(statement);
        if (named.matches()) {
            return statement + "\n" + noted(named.group(1));
        }
        return noted(statement.substring(0, statement.length() - 1));
    }

    private static String noted(String expression) {
        return "answers.add(String.valueOf(" + expression + "));\n";
    }
}
