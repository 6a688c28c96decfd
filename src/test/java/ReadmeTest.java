import java.io.IOException;
import java.io.StringWriter;
import java.net.URL;
import java.net.URLClassLoader;
import java.nio.file.Files;
import java.nio.file.Path;
import java.util.ArrayList;
import java.util.Arrays;
import java.util.Comparator;
import java.util.List;
import java.util.Set;
import java.util.TreeSet;
import java.util.regex.Matcher;
import java.util.regex.Pattern;
import java.util.stream.Stream;
import javax.tools.JavaCompiler;
import javax.tools.ToolProvider;

/** README.md: its examples answer as it says, and it leaves out no call, no refusal, no setting, no kind and no test. */
public final class ReadmeTest {
    private static final Check check = new Check();
    private static final Pattern HEAD = Pattern.compile("### `(.*)`");
    private static final Pattern ASKED = Pattern.compile("\\s*(door\\.(\\w+)\\(.*\\));\\s+// ([^:]+)(:.*)?");
    private static final String NAMES = "BAD|NOT|FULL|NONE|NULL|CAST|INDEX|SIZE";
    private static final Pattern REFUSAL = Pattern.compile("\\b(" + NAMES + ")\\b");
    private static final Pattern QUOTED_REFUSAL = Pattern.compile("`((?:" + NAMES + ")(?: - \\d+)?|-\\d+)`");

    /** A line of an example: where it stands, under which call, and what of it is asked and due (null: nothing is). */
    private record Line(int number, String section, String text, String call, String name, String due) {
    }

    /** Lines of all examples; a line that ends one has no text. */
    private static List<Line> examples(List<String> page) {
        List<Line> found = new ArrayList<>();
        String section = "";
        boolean shown = false;
        for (int i = 0; i < page.size(); i++) {
            String text = page.get(i);
            Matcher head = HEAD.matcher(text);
            Matcher asked = ASKED.matcher(text);
            if (head.matches()) {
                section = head.group(1);
            } else if (text.equals("```java")) {
                shown = true;
            } else if (shown && text.equals("```")) {
                shown = false;
                found.add(new Line(i + 1, section, "", null, null, null));
            } else if (shown && asked.matches()) {
                found.add(new Line(i + 1, section, text, asked.group(1), asked.group(2), asked.group(3).trim()));
            } else if (shown) {
                found.add(new Line(i + 1, section, text, null, null, null));
            }
        }
        return found;
    }

    private static void eachTellsItsAnswer(List<Line> examples) {
        for (Line line : examples) {
            boolean asks = line.text().matches(".*\\bdoor\\s*\\..*");
            check.holds("README.md line " + line.number() + " says what is answered", !asks || line.due() != null);
        }
    }

    /** The examples as a class that tells of each line that asks: its number, the answer, what is due. */
    private static String asClass(List<Line> examples) {
        StringWriter out = new StringWriter();
        out.write("public final class Examples {\n    public static void run(java.util.List<long[]> told) {\n        {\n");
        for (Line line : examples) {
            if (line.due() != null) {
                String due = REFUSAL.matcher(line.due()).replaceAll("TurnDoor.$1");
                out.write("told.add(new long[] {" + line.number() + ", " + line.call() + ", " + due + "});\n");
            } else if (line.text().isEmpty()) {
                out.write("        }\n        {\n");
            } else {
                out.write(line.text() + "\n");
            }
        }
        out.write("        }\n    }\n}\n");
        return out.toString();
    }

    /** What the lines that ask answer; nothing at all if the examples can't be compiled. */
    @SuppressWarnings("unchecked")
    private static List<long[]> answers(List<Line> examples) throws IOException, ReflectiveOperationException {
        List<long[]> told = new ArrayList<>();
        Path place = Files.createTempDirectory("readme");
        Path source = place.resolve("Examples.java");
        Files.writeString(source, asClass(examples));
        JavaCompiler compiler = ToolProvider.getSystemJavaCompiler();
        int fault = compiler.run(null, null, null, "-cp", System.getProperty("java.class.path"), "-d", place.toString(),
            source.toString());
        check.due("the examples of README.md compile", fault, 0);
        if (fault == 0) {
            try (URLClassLoader loader = new URLClassLoader(new URL[] {place.toUri().toURL()})) {
                loader.loadClass("Examples").getMethod("run", List.class).invoke(null, told);
            }
        }
        try (Stream<Path> made = Files.walk(place)) {
            for (Path file : made.sorted(Comparator.reverseOrder()).toList()) {
                Files.delete(file);
            }
        }
        return told;
    }

    private static void examplesAnswer(List<String> page, List<Line> examples)
            throws IOException, ReflectiveOperationException {
        List<long[]> told = answers(examples);
        Set<Long> lines = new TreeSet<>();
        for (long[] one : told) {
            lines.add(one[0]);
            check.due("README.md line " + one[0] + ": " + page.get((int) one[0] - 1).trim(), one[1], one[2]);
        }
        check.due("lines that were asked", lines.size(), examples.stream().filter(line -> line.due() != null).count());
    }

    /** If a wrong line were not found, all that this test says would be worth nothing. */
    private static void wrongOnesAreFound() throws IOException, ReflectiveOperationException {
        List<String> page = List.of("### `int count(int what)`", "```java", "TurnDoor door = new TurnDoor();",
            "door.count(0);  // 0: nobody", "door.count(0);  // 1", "door.count(2);  // BAD: so it is", "```",
            "door.count(0);  // 7: not in an example", "```java", "TurnDoor door = new TurnDoor();",
            "door.without(0);    // BAD - 100000", "door.without(0);    // BAD", "door.image();", "```");
        List<Line> examples = examples(page);
        List<long[]> told = answers(examples);
        StringBuilder wrong = new StringBuilder();
        for (long[] one : told) {
            wrong.append(one[1] == one[2] ? "" : one[0] + " ");
        }
        check.holds("lines 5 and 12 are wrong, not " + wrong, wrong.toString().equals("5 12 "));
        check.due("lines that ask", told.size(), 5);
        check.holds("the last line tells no answer", examples.get(8).due() == null && examples.get(8).number() == 13);
        check.holds("a section is known", examples.get(1).section().equals("int count(int what)"));
    }

    private static String[] cells(String row) {
        String[] cells = row.replaceAll("^\\| | *\\|$", "").split(" *\\| *", -1);
        for (int i = 0; i < cells.length; i++) {
            cells[i] = cells[i].replace("`", "").trim();
        }
        return cells;
    }

    /** Rows of the table under a head, without its own head. */
    private static List<String[]> table(List<String> page, String head) {
        List<String[]> rows = new ArrayList<>();
        int from = page.indexOf(head);
        for (int i = from + 1; from >= 0 && i < page.size() && !page.get(i).startsWith("#"); i++) {
            if (page.get(i).startsWith("| ")) {
                rows.add(cells(page.get(i)));
            }
        }
        return rows.isEmpty() ? rows : rows.subList(1, rows.size());
    }

    private static void refusals(List<String> page) throws ReflectiveOperationException {
        List<String[]> rows = table(page, "### Refusals");
        check.due("refusals", rows.size(), TurnDoor.class.getFields().length);
        for (String[] row : rows) {
            check.due(row[0], TurnDoor.class.getField(row[0]).getInt(null), Integer.parseInt(row[1]));
        }
    }

    private static void settings(List<String> page) {
        List<String[]> rows = table(page, "### Settings");
        check.due("settings", rows.size(), 9);
        for (int what = 0; what < rows.size(); what++) {
            String[] row = rows.get(what);
            int least = Integer.parseInt(row[2]);
            int most = Integer.parseInt(row[3]);
            TurnDoor door = new TurnDoor();
            check.due("number of " + row[1], Integer.parseInt(row[0]), what);
            check.due(row[1] + " at first", door.set(what, least), Integer.parseInt(row[4]));
            check.due(row[1] + " at least", door.set(what, least - 1), TurnDoor.BAD);
            check.due(row[1] + " at most", door.set(what, most), least);
            check.due(row[1] + " above it", door.set(what, most + 1), TurnDoor.BAD);
        }
    }

    private static void kinds(List<String> page) {
        List<String[]> rows = table(page, "### Kinds");
        check.due("kinds", rows.size(), 6);
        for (int kind = 0; kind < rows.size(); kind++) {
            String[] row = rows.get(kind);
            TurnDoor door = Check.withPeople("0s" + row[2]);
            check.due("number of " + row[1], Integer.parseInt(row[0]), kind);
            check.due("kind of letter " + row[2], door.told(0, 2), kind);
            check.due("size of " + row[1], door.told(0, 3), Integer.parseInt(row[3]));
            check.due("push of " + row[1], door.told(0, 4), Integer.parseInt(row[4]));
        }
    }

    private static List<String> face(List<String> document) {
        List<String> face = new ArrayList<>();
        for (String line : document) {
            Matcher method = Pattern.compile(" {4}public ((?:int )?\\w+\\(.*\\));").matcher(line);
            if (method.matches()) {
                face.add(method.group(1));
            }
        }
        return face;
    }

    private static Set<String> all(Pattern pattern, String text) {
        Set<String> found = new TreeSet<>();
        Matcher matcher = pattern.matcher(text);
        while (matcher.find()) {
            found.add(matcher.group(1));
        }
        return found;
    }

    /** What stands behind a line that starts so, up to the next that starts with another. */
    private static String between(List<String> lines, String start, String end) {
        StringBuilder text = new StringBuilder();
        boolean in = false;
        for (String line : lines) {
            if (line.startsWith(start)) {
                in = true;
            } else if (in && (end.isEmpty() ? line.isEmpty() : line.startsWith(end))) {
                return text.toString();
            }
            if (in) {
                text.append(line).append('\n');
            }
        }
        return text.toString();
    }

    /** Each call is told with the refusals that the document names, and an example shows each of them. */
    private static void calls(List<String> page, List<String> document, List<Line> examples) {
        List<String> heads = new ArrayList<>();
        for (String line : page) {
            Matcher head = HEAD.matcher(line);
            if (head.matches()) {
                heads.add(head.group(1));
            }
        }
        List<String> face = face(document);
        check.due("calls of the document", face.size(), 27);
        check.holds("README.md tells of all calls: " + heads, heads.equals(face));
        for (int i = 0; i < face.size(); i++) {
            String call = face.get(i);
            String name = call.replaceAll("^int |\\(.*", "");
            List<String> section = Arrays.asList(between(page, "### `" + call + "`", "##").split("\n"));
            String refused = between(section, "Refusals:", "");
            check.holds(call + " says its refusals", !refused.isEmpty());
            String promise = between(document, "## Promise " + (i + 1) + ":", "## ");
            check.holds("promise " + (i + 1) + " is of " + name, promise.contains("`" + call + "`"));
            Set<String> quoted = all(QUOTED_REFUSAL, refused);
            Set<String> due = all(REFUSAL, promise);
            check.holds(call + " has refusals " + due, all(REFUSAL, String.join(" ", quoted)).equals(due));
            check.holds(call + " has none", !due.isEmpty() || refused.equals("Refusals: none.\n"));
            for (String refusal : quoted) {
                check.holds(call + " is shown to answer " + refusal, examples.stream().anyMatch(line ->
                    line.section().equals(call) && name.equals(line.name()) && refusal.equals(line.due())));
            }
            check.holds(call + " has an example", examples.stream().anyMatch(line -> line.section().equals(call)
                && (name.equals(line.name()) || line.text().contains("new " + name + "("))));
        }
    }

    private static void tests(List<String> page) throws IOException {
        Set<String> there = new TreeSet<>();
        try (Stream<Path> files = Files.list(Path.of("src/test/java"))) {
            files.map(file -> file.getFileName().toString()).filter(name -> name.endsWith("Test.java"))
                .forEach(name -> there.add(name.replace(".java", "")));
        }
        Set<String> named = all(Pattern.compile("`(\\w+Test)`"), String.join("\n", page));
        check.holds("README.md tells of the tests " + there + ", not " + named, named.equals(there));
    }

    public static void main(String[] args) throws IOException, ReflectiveOperationException {
        List<String> page = Files.readAllLines(Path.of("README.md"));
        List<String> document = Files.readAllLines(Path.of("../shared/DOC.md"));
        List<Line> examples = examples(page);
        wrongOnesAreFound();
        eachTellsItsAnswer(examples);
        examplesAnswer(page, examples);
        refusals(page);
        settings(page);
        kinds(page);
        calls(page, document, examples);
        tests(page);
        check.end("ReadmeTest");
    }
}
