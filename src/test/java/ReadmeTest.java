import java.io.ByteArrayOutputStream;
import java.io.IOException;
import java.io.PrintStream;
import java.net.URL;
import java.net.URLClassLoader;
import java.nio.file.Files;
import java.nio.file.Path;
import java.util.ArrayList;
import java.util.Comparator;
import java.util.LinkedHashMap;
import java.util.List;
import java.util.Map;
import java.util.Set;
import java.util.regex.Matcher;
import java.util.regex.Pattern;
import java.util.stream.Collectors;
import java.util.stream.Stream;

/** That the examples in README.md answer as they say, and that it tells of every call and of every finding. */
public final class ReadmeTest {
    private static final Path README = Path.of("README.md");
    private static final Path DOCUMENT = Path.of("../shared/DOC.md");
    /** A line of an example: perhaps a variable, a call, the number behind it. */
    private static final Pattern LINE = Pattern.compile("(?m)^( *)(int (\\w+) = )?(.*?);( *)// (-?\\d+)(:.*)?$");
    private static final String WHOLE = "public final class ";
    private static final String PRINT = "System.out.println(";

    private static int wrong = 0;
    private static int asked = 0;

    public static void main(String[] args) throws Exception {
        String readme = Files.readString(README);
        Path dir = Files.createTempDirectory("readme");
        try {
            examples(dir, blocks(readme));
        } finally {
            clear(dir);
        }
        calls(readme);
        findings(readme);
        System.out.println("ReadmeTest: " + (asked - wrong) + " things are as it says, " + wrong + " not");
        if (wrong != 0) {
            System.exit(1);
        }
    }

    /** Examples, changed so that they ask this for each line, call it. */
    public static void due(String call, int want, int got) {
        must(want == got, call + " is told as " + want + ", answered " + got);
    }

    private static void must(boolean good, String what) {
        asked++;
        if (!good) {
            wrong++;
            System.err.println("README.md: " + what);
        }
    }

    private static List<String> blocks(String readme) {
        List<String> all = new ArrayList<>();
        Matcher m = Pattern.compile("(?s)```java\n(.*?)```").matcher(readme);
        while (m.find()) {
            all.add(m.group(1));
        }
        return all;
    }

    // ---- examples

    private static void examples(Path dir, List<String> codes) throws Exception {
        must(codes.size() >= 3, "there are examples, seen: " + codes.size());
        Map<String, String> classes = new LinkedHashMap<>();
        Map<String, String> prints = new LinkedHashMap<>();
        for (String code : codes) {
            for (String line : code.split("\n")) {
                must(!line.contains("empire.") || LINE.matcher(line).matches(), "no answer is told for: " + line.trim());
            }
            String asking = "Asking" + classes.size();
            if (code.startsWith(WHOLE)) {
                String name = code.substring(WHOLE.length(), code.indexOf(" {"));
                classes.put(name, code);
                prints.put(name, toldToPrint(code));
                classes.put(asking, asking(code).replace(WHOLE + name, WHOLE + asking));
            } else {
                classes.put(asking, WHOLE + asking + " {\n    public static void main(String[] args) {\n" + asking(code)
                        + "    }\n}\n");
            }
        }
        boolean isCompiled = compile(dir, classes);
        must(isCompiled, "the examples compile");
        for (String name : isCompiled ? classes.keySet() : Set.<String>of()) {
            String printed = run(dir, name);
            must(printed.equals(prints.getOrDefault(name, "")), name + " prints\n" + printed);
        }
    }

    /** The example with each told answer asked for. */
    private static String asking(String code) {
        Matcher m = LINE.matcher(code);
        return m.replaceAll(line -> {
            String call = line.group(4);
            if (call.startsWith(PRINT)) {
                call = call.substring(PRINT.length(), call.length() - 1);
            }
            String variable = line.group(3);
            String first = variable == null ? "" : "int " + variable + " = " + call + "; ";
            return Matcher.quoteReplacement(first + "ReadmeTest.due(\"" + call.replace("\"", "\\\"") + "\", "
                    + line.group(6) + ", " + (variable == null ? call : variable) + ");");
        });
    }

    private static String toldToPrint(String code) {
        StringBuilder lines = new StringBuilder();
        Matcher m = LINE.matcher(code);
        while (m.find()) {
            if (m.group(4).startsWith(PRINT)) {
                lines.append(m.group(6)).append('\n');
            }
        }
        return lines.toString();
    }

    private static boolean compile(Path dir, Map<String, String> classes) throws Exception {
        List<String> command = new ArrayList<>(List.of("javac", "-d", dir.toString(), "-cp",
                System.getProperty("java.class.path")));
        for (Map.Entry<String, String> each : classes.entrySet()) {
            command.add(Files.writeString(dir.resolve(each.getKey() + ".java"), each.getValue()).toString());
        }
        return new ProcessBuilder(command).inheritIO().start().waitFor() == 0;
    }

    /** What a class prints; what due() finds wrong in it is told aside. */
    private static String run(Path dir, String name) throws Exception {
        PrintStream before = System.out;
        ByteArrayOutputStream printed = new ByteArrayOutputStream();
        try (URLClassLoader loader = new URLClassLoader(new URL[] {dir.toUri().toURL()}, ReadmeTest.class.getClassLoader())) {
            System.setOut(new PrintStream(printed, true));
            loader.loadClass(name).getMethod("main", String[].class).invoke(null, (Object) new String[0]);
        } finally {
            System.setOut(before);
        }
        return printed.toString().replace("\r\n", "\n");
    }

    private static void clear(Path dir) throws IOException {
        List<Path> all;
        try (Stream<Path> paths = Files.walk(dir)) {
            all = paths.sorted(Comparator.reverseOrder()).collect(Collectors.toList());
        }
        for (Path path : all) {
            Files.delete(path);
        }
    }

    // ---- calls and findings

    /** Each call of the document's face has a row, with the findings that it may answer in the order in which it asks. */
    private static void calls(String readme) throws IOException {
        String document = Files.readString(DOCUMENT);
        Matcher m = Pattern.compile("public int (\\w+)\\(([^)]*)\\);").matcher(document);
        int calls = 0;
        while (m.find()) {
            calls++;
            String call = m.group(1) + "(" + m.group(2).replace("int ", "") + ")";
            Matcher row = Pattern.compile("(?m)^\\| `" + Pattern.quote(call) + "` \\| [^|]+ \\|([ A-Z]*)\\|$").matcher(readme);
            boolean isThere = row.find();
            must(isThere, "there is no row for " + call);
            if (isThere) {
                String ways = (m.group(1) + " " + row.group(1).trim()).trim();
                must(RandomRunsTest.WAYS.contains(ways), "findings of " + ways);
            }
        }
        must(calls == 44, "the document's face has 44 calls, seen: " + calls);
    }

    private static void findings(String readme) {
        List<String> names = List.of("BEYOND", "FULL", "KIND", "NONE", "STATE", "MISSING", "SIZE");
        for (int i = 0; i < names.size(); i++) {
            must(readme.contains("| " + (-1000001 - i) + " | " + names.get(i) + " |"), "no row for " + names.get(i));
        }
    }
}
