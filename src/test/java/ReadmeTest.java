import java.lang.reflect.Method;
import java.lang.reflect.Modifier;
import java.nio.file.Files;
import java.nio.file.Path;
import java.util.List;
import java.util.Map;
import java.util.Set;
import java.util.TreeMap;
import java.util.TreeSet;
import java.util.regex.Matcher;
import java.util.regex.Pattern;

/** What README.md says is so: its example, its table of calls, its list of tests. */
public final class ReadmeTest {
    private static final String NEW = "LikeWords x = new LikeWords();";
    private static final Pattern CALL = Pattern.compile("x\\.(\\w+)\\((.*)\\); +// (-?\\d+|[A-Z]+)(: .*)?");
    private static final Pattern ROW = Pattern.compile("\\| `(\\w+)\\((.*)\\)` \\| .* \\|");
    private static final Pattern TEST = Pattern.compile("- `(\\w+)`: .*");
    private static final Map<String, Method> FACE = new TreeMap<>();
    private static int wrong = 0;

    private static void due(String what, Object got, Object want) {
        if (!got.equals(want)) {
            wrong++;
            System.out.println(what + " is " + got + ", due is " + want);
        }
    }

    private static Object value(String text, Class<?> type) {
        if (type == boolean.class) return Boolean.valueOf(text);
        if (type == long.class) return Long.valueOf(text);
        return Integer.valueOf(text);
    }

    /** What is said behind a call: a number, or the name of a constant. */
    private static long said(String text) throws Exception {
        return Character.isLetter(text.charAt(0)) ? LikeWords.class.getField(text).getInt(null) : Long.parseLong(text);
    }

    private static String[] split(String list) {
        return list.isEmpty() ? new String[0] : list.split(", ");
    }

    private static long answer(LikeWords x, String name, String list) throws Exception {
        Method method = FACE.get(name);
        String[] texts = split(list);
        Object[] values = new Object[texts.length];
        for (int i = 0; i < texts.length; i++) values[i] = value(texts[i], method.getParameterTypes()[i]);
        return ((Number) method.invoke(x, values)).longValue();
    }

    /** Each line is a call and what it answers, or tells what comes next. */
    private static void lookAtExample(List<String> lines) throws Exception {
        LikeWords x = null;
        int calls = 0;
        Set<String> used = new TreeSet<>();
        for (String line : lines) {
            Matcher call = CALL.matcher(line);
            if (line.equals(NEW)) {
                x = new LikeWords();
            } else if (x != null && call.matches() && FACE.containsKey(call.group(1))) {
                due(line, answer(x, call.group(1), call.group(2)), said(call.group(3)));
                used.add(call.group(1));
                calls++;
            } else {
                due("the line " + line, line.isEmpty() || line.startsWith("// "), true);
            }
        }
        due("what the example uses", used, FACE.keySet());
        due("whether the example has at most 512 calls", calls <= 512, true);
    }

    private static void lookAtTable(String line, Set<String> told) {
        Matcher row = ROW.matcher(line);
        if (!row.matches()) return;
        told.add(row.group(1));
        Method method = FACE.get(row.group(1));
        if (method != null) {
            due("how many numbers " + line + " takes", split(row.group(2)).length, method.getParameterCount());
        }
    }

    private static Set<String> tests() throws Exception {
        Set<String> names = new TreeSet<>();
        try (var files = Files.list(Path.of("src/test/java"))) {
            for (Path file : files.toList()) names.add(file.getFileName().toString().replace(".java", ""));
        }
        return names;
    }

    public static void main(String[] args) throws Exception {
        for (Method method : LikeWords.class.getDeclaredMethods()) {
            if (Modifier.isPublic(method.getModifiers())) FACE.put(method.getName(), method);
        }
        List<String> lines = Files.readAllLines(Path.of("README.md"));
        int start = lines.indexOf("```java");
        int end = lines.indexOf("```");
        due("whether there is an example", start >= 0 && end > start, true);
        if (start >= 0 && end > start) lookAtExample(lines.subList(start + 1, end));
        Set<String> inTable = new TreeSet<>();
        Set<String> inList = new TreeSet<>();
        for (String line : lines) {
            lookAtTable(line, inTable);
            Matcher test = TEST.matcher(line);
            if (test.matches()) inList.add(test.group(1));
        }
        due("what the table tells", inTable, FACE.keySet());
        due("what the list of tests tells", inList, tests());
        due("whether .ci/run can be run", Files.isExecutable(Path.of(".ci/run")), true);
        System.out.println(wrong == 0 ? "what README.md says is so" : wrong + " things are not as README.md says");
        if (wrong != 0) System.exit(1);
    }
}
