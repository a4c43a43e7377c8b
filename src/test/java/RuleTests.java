import java.io.InputStream;
import java.lang.reflect.Field;
import java.lang.reflect.Method;
import java.lang.reflect.Modifier;
import java.nio.charset.StandardCharsets;
import java.nio.file.Files;
import java.nio.file.Path;
import java.util.ArrayList;
import java.util.LinkedHashMap;
import java.util.List;
import java.util.Map;
import java.util.Set;
import java.util.TreeSet;
import java.util.regex.Matcher;
import java.util.regex.Pattern;

/** The rules of LANGUAGE.md, as far as the source's text and the compiled class can show them; rule 1 is in FaceTests. */
public final class RuleTests {
    private static final String[] NO_SUCH_WORDS = {
        "2 ->", "2 ::", "3 \\bvar\\b", "3 \\bObject\\b", "4 \\bimport\\b", "1 \\bpackage\\b", "1 \\bprotected\\b",
        "5 \\bstatic\\s*\\{", "6 \\b(?:try|catch|finally|throws?|assert|synchronized)\\b", "6 \\b(?:equals|hashCode|toString)\\([^()]*\\) \\{",
        "13 \\b(?:Random|Thread|Runtime|currentTimeMillis|nanoTime)\\b"
    };
    private static final Pattern OUTER_CALL = Pattern.compile("\\b([A-Z]\\w*)\\.(\\w+)\\(");
    private static final Pattern ALLOWED_CALL = Pattern.compile(
        "(?:Math|Integer|Long)\\.\\w+|System\\.arraycopy|Arrays\\.(?:copyOf|copyOfRange|fill)|List\\.of");
    private static final Pattern METHOD = Pattern.compile("( {4}| {8})(?! )(?:[\\w\\[\\]]+ )+(\\w+)\\(.*\\) \\{");
    private static final Pattern NAMED = Pattern.compile("(?<!new )\\b(\\w+)\\(");
    private static final Set<String> NUMBERS = Set.of("int", "long", "short", "byte", "char", "boolean", "double", "float");
    private static final int MOST_LINES = 60;
    private static final int MOST_PARAMETERS = 7;
    private static final int MOST_DEEP = 8;
    private static final int MOST_CLASSES = 12;
    private static final int MOST_FIELDS = 20;

    private static int wrong = 0;
    private static final Map<String, String> bodies = new LinkedHashMap<>();

    private static void rule(int number, boolean holds, String why) {
        if (holds) return;
        wrong++;
        System.out.println("rule " + number + ": " + why);
    }

    public static void main(String[] args) throws Exception {
        String text = Files.readString(Path.of("src/main/java/OilRound.java"), StandardCharsets.ISO_8859_1);
        String bare = text.replaceAll("(?s)/\\*.*?\\*/", " ").replaceAll("//[^\n]*", "");
        List<Class<?>> classes = new ArrayList<>(List.of(OilRound.class.getDeclaredClasses()));
        classes.add(OilRound.class);
        words(text, bare);
        library(bare);
        for (Class<?> each : classes) fields(each);
        sizes(classes);
        joinedTexts(classes);
        readMethods(bare, classes);
        calls();
        objects();
        System.out.println(wrong == 0 ? "the rules are kept" : wrong + " faults against the rules");
        if (wrong != 0) System.exit(1);
    }

    private static void words(String text, String bare) {
        for (int i = 0; i < text.length(); i++) {
            char sign = text.charAt(i);
            rule(4, sign == '\n' || sign >= 32 && sign <= 126, "sign " + (int) sign + " at " + i);
        }
        for (String each : NO_SUCH_WORDS) {
            int blank = each.indexOf(' ');
            Matcher found = Pattern.compile(each.substring(blank + 1)).matcher(bare);
            if (found.find()) rule(Integer.parseInt(each.substring(0, blank)), false, "'" + found.group() + "'");
        }
    }

    private static void library(String bare) {
        Matcher found = OUTER_CALL.matcher(bare);
        while (found.find()) {
            String call = found.group(1) + "." + found.group(2);
            rule(4, ALLOWED_CALL.matcher(call).matches() && !call.endsWith("Exact"), call);
        }
    }

    private static void fields(Class<?> of) {
        int count = 0;
        for (Field each : of.getDeclaredFields()) {
            Class<?> type = each.getType();
            if (!Modifier.isStatic(each.getModifiers())) {
                count++;
                rule(3, isAllowed(type), each.toString());
                continue;
            }
            rule(5, Modifier.isFinal(each.getModifiers()), "not final: " + each);
            Class<?> part = type.isArray() ? type.getComponentType() : type;
            rule(5, part == String.class || NUMBERS.contains(part.getName()), each.toString());
        }
        rule(11, count <= MOST_FIELDS, of.getName() + " has " + count + " fields");
    }

    private static boolean isAllowed(Class<?> type) {
        if (type.isArray() && type.getComponentType().isArray()) return NUMBERS.contains(type.getComponentType().getComponentType().getName());
        Class<?> part = type.isArray() ? type.getComponentType() : type;
        return NUMBERS.contains(part.getName()) || part == String.class || part == StringBuilder.class
            || part.getName().startsWith("OilRound$") || part == List.class || part == ArrayList.class;
    }

    private static void sizes(List<Class<?>> classes) {
        rule(11, classes.size() <= MOST_CLASSES, classes.size() + " classes");
        for (Class<?> each : classes) {
            for (Method method : each.getDeclaredMethods()) {
                rule(11, method.getParameterCount() <= MOST_PARAMETERS, "parameters of " + method);
                rule(2, !method.isSynthetic(), "made by a lambda or a class inside: " + method);
            }
        }
    }

    /** Texts joined by + are made by one function, whose name then stands in the compiled class. */
    private static void joinedTexts(List<Class<?>> classes) throws Exception {
        for (Class<?> each : classes) {
            try (InputStream in = each.getResourceAsStream(each.getName() + ".class")) {
                String all = new String(in.readAllBytes(), StandardCharsets.ISO_8859_1);
                rule(10, !all.contains("makeConcat"), "texts joined by + in " + each.getName());
            }
        }
    }

    /** All methods by name; the names must differ, so that a name tells which is called. */
    private static void readMethods(String bare, List<Class<?>> classes) {
        Set<String> missed = new TreeSet<>();
        for (Class<?> each : classes) {
            for (Method method : each.getDeclaredMethods()) missed.add(method.getName());
        }
        String[] lines = bare.split("\n");
        for (int first = 0; first < lines.length; first++) {
            Matcher found = METHOD.matcher(lines[first]);
            if (!found.matches() || lines[first].contains("class ") || found.group(2).equals("OilRound")) continue;
            String name = found.group(2);
            int last = first;
            while (!lines[last].equals(found.group(1) + "}")) last++;
            String body = String.join("\n", List.of(lines).subList(first + 1, last));
            rule(11, bodies.put(name, body) == null, "two methods are named " + name);
            rule(11, last - first + 1 <= MOST_LINES, name + " has " + (last - first + 1) + " lines");
            missed.remove(name);
        }
        rule(11, missed.isEmpty(), "not found in the source: " + missed);
    }

    private static void calls() {
        for (String each : bodies.keySet()) {
            int deep = depth(each, new ArrayList<>());
            rule(11, deep <= MOST_DEEP, each + " goes " + deep + " calls deep");
        }
    }

    private static int depth(String name, List<String> open) {
        if (open.contains(name)) {
            rule(8, false, "a recursion of " + name + " by " + open);
            return 0;
        }
        open.add(name);
        int most = 0;
        Matcher found = NAMED.matcher(bodies.get(name));
        while (found.find()) {
            if (bodies.containsKey(found.group(1))) most = Math.max(most, depth(found.group(1), open));
        }
        open.remove(open.size() - 1);
        return most + 1;
    }

    /** All rows are made with the object; a house alone is made by a call. */
    private static void objects() {
        for (Map.Entry<String, String> each : bodies.entrySet()) {
            boolean makes = Pattern.compile("\\bnew\\b").matcher(each.getValue()).find();
            rule(12, !makes || each.getKey().equals("house"), each.getKey() + " makes objects");
        }
    }
}
