import java.lang.reflect.Constructor;
import java.lang.reflect.Field;
import java.lang.reflect.Method;
import java.lang.reflect.Modifier;
import java.nio.file.Files;
import java.nio.file.Path;
import java.util.ArrayList;
import java.util.Arrays;
import java.util.List;
import java.util.Map;
import java.util.Set;
import java.util.TreeMap;
import java.util.TreeSet;
import java.util.regex.Matcher;
import java.util.regex.Pattern;

/** The document's face, and what of LANGUAGE.md can be seen in the class and in its source. */
public final class RulesTest {
    private static final Path SOURCE = Path.of("src/main/java/TwoBelow.java");
    private static final Path DOCUMENT = Path.of("../shared/DOC.md");
    private static final Set<Class<?>> CONSTANTS = Set.of(int.class, long.class, boolean.class, char.class, String.class,
            int[].class, long[].class, char[].class, byte[].class);

    private static final int DEEPEST = 8;

    private static int wrong = 0;
    private static int asked = 0;

    public static void main(String[] args) throws Exception {
        face();
        classes();
        source();
        System.out.println("RulesTest: " + (asked - wrong) + " rules kept, " + wrong + " broken");
        if (wrong != 0) {
            System.exit(1);
        }
    }

    private static void must(boolean good, String what) {
        asked++;
        if (!good) {
            wrong++;
            System.out.println("broken: " + what);
        }
    }

    private static void face() throws Exception {
        String document = Files.readString(DOCUMENT);
        String block = document.substring(document.indexOf("public final class"), document.indexOf("## Terms"));
        Set<String> due = new TreeSet<>();
        Matcher m = Pattern.compile("public int (\\w+)\\(([^)]*)\\);").matcher(block);
        while (m.find()) {
            due.add(m.group(1) + "/" + (m.group(2).isBlank() ? 0 : m.group(2).split(",").length));
        }
        Set<String> got = new TreeSet<>();
        for (Method method : TwoBelow.class.getDeclaredMethods()) {
            if (!Modifier.isPrivate(method.getModifiers())) {
                got.add(method.getName() + "/" + method.getParameterCount());
                must(Modifier.isPublic(method.getModifiers()), method + " is public");
                must(method.getReturnType() == int.class, method + " answers an int");
                must(Arrays.stream(method.getParameterTypes()).allMatch(t -> t == int.class), method + " takes ints");
            }
        }
        must(due.size() == 44, "the document's face has 44 methods, seen: " + due.size());
        must(got.equals(due), "the face is " + due + ", not " + got);
        must(Modifier.isFinal(TwoBelow.class.getModifiers()), "the class is final");
        must(Modifier.isPublic(TwoBelow.class.getModifiers()), "the class is public");
        Constructor<?>[] made = TwoBelow.class.getDeclaredConstructors();
        must(made.length == 1 && made[0].getParameterCount() == 0 && Modifier.isPublic(made[0].getModifiers()),
                "there is one public constructor without parameters");
        must(TwoBelow.class.getFields().length == 0, "no field is public");
    }

    private static void classes() {
        List<Class<?>> all = new ArrayList<>(List.of(TwoBelow.class));
        all.addAll(Arrays.asList(TwoBelow.class.getDeclaredClasses()));
        must(all.size() <= 12, "at most twelve classes");
        Set<String> ofFace = new TreeSet<>();
        for (Method method : TwoBelow.class.getMethods()) {
            ofFace.add(method.getName());
        }
        for (Class<?> c : all) {
            must(c == TwoBelow.class || Modifier.isStatic(c.getModifiers()), c + " is static");
            must(c.getDeclaredClasses().length == 0 || c == TwoBelow.class, c + " has no class inside");
            int fields = 0;
            for (Field field : c.getDeclaredFields()) {
                int mods = field.getModifiers();
                fields += Modifier.isStatic(mods) ? 0 : 1;
                must(c != TwoBelow.class || Modifier.isPrivate(mods), field + " is private");
                must(!Modifier.isStatic(mods) || Modifier.isFinal(mods) && CONSTANTS.contains(field.getType()),
                        field + " is no constant");
            }
            must(fields <= 20, c + " has at most twenty fields");
            for (Method method : c.getDeclaredMethods()) {
                must(method.getParameterCount() <= 7, method + " takes at most seven");
                must(!method.isSynthetic(), method + " is no lambda or bridge");
                must(c == TwoBelow.class && Modifier.isPublic(method.getModifiers())
                        || !ofFace.contains(method.getName()), method + " bears a name of the face");
            }
        }
    }

    private static void source() throws Exception {
        String raw = Files.readString(SOURCE);
        must(raw.chars().allMatch(c -> c == '\n' || c >= 32 && c < 127), "the source has plain signs alone");
        String code = raw.replaceAll("(?s)/\\*.*?\\*/", " ").replaceAll("//[^\n]*", " ")
                .replaceAll("\"[^\"\n]*\"", "\"\"").replaceAll("'[^'\n]+'", "' '");
        for (String word : List.of("throw", "throws", "try", "catch", "finally", "synchronized", "assert", "import",
                "package", "hashCode", "toString", "equals", "native", "volatile", "transient", "var", "yield")) {
            must(!Pattern.compile("\\b" + word + "\\b").matcher(code).find(), "no word " + word);
        }
        for (String sign : List.of("->", "::", "@")) {
            must(!code.contains(sign), "no sign " + sign);
        }
        Matcher m = Pattern.compile("\\b([A-Z][a-z]\\w*)\\.(\\w+)").matcher(code);
        Set<String> library = Set.of("Integer.bitCount", "Math.min", "System.arraycopy");
        while (m.find()) {
            must(library.contains(m.group()), m.group() + " is not in the list");
        }
        must(!Pattern.compile("\\bstatic\\s*\\{").matcher(code).find(), "no static block");
        objects(code);
        Map<String, String> bodies = methods(code);
        must(bodies.size() > 100, "the methods were seen");
        for (String name : bodies.keySet()) {
            must(depth(name, bodies, 1) <= DEEPEST, "calls go at most eight deep below " + name);
        }
    }

    /** Each method by its name, with its lines. */
    private static Map<String, String> methods(String code) {
        Map<String, String> bodies = new TreeMap<>();
        String[] lines = code.split("\n");
        Pattern head = Pattern.compile("^(    |        )(?:\\w+ )*(?:int|boolean|void|Sheet) (\\w+)\\([^()]*\\) \\{$");
        for (int i = 0; i < lines.length; i++) {
            Matcher m = head.matcher(lines[i]);
            if (m.find()) {
                int end = i;
                while (!lines[end].equals(m.group(1) + "}")) {
                    end++;
                }
                must(end - i < 60, m.group(2) + " has at most sixty lines");
                String body = String.join("\n", Arrays.asList(lines).subList(i + 1, end));
                must(bodies.put(m.group(2), body) == null, m.group(2) + " is the name of one method alone");
            }
        }
        return bodies;
    }

    /** How deep calls go from a method on, itself counted; it stops where they go too deep. */
    private static int depth(String name, Map<String, String> bodies, int open) {
        int deepest = 1;
        Matcher m = Pattern.compile("\\b(\\w+)\\(").matcher(bodies.get(name));
        while (m.find() && open <= DEEPEST) {
            if (bodies.containsKey(m.group(1))) {
                deepest = Math.max(deepest, 1 + depth(m.group(1), bodies, open + 1));
            }
        }
        return deepest;
    }

    /** Objects come with a TwoBelow alone, so that 512 calls need no more room than none. */
    private static void objects(String code) {
        for (String line : code.split("\n")) {
            if (Pattern.compile("\\bnew\\b").matcher(line).find()) {
                must(line.matches(" +(private )?final [\\w\\[\\]]+ \\w+ = new [^;]*;")
                        || line.trim().equals("sheets[s] = new Sheet();"), "no object is made by a call: " + line.trim());
            }
        }
    }
}
