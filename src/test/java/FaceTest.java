import java.io.PrintWriter;
import java.io.StringWriter;
import java.lang.reflect.Array;
import java.lang.reflect.Field;
import java.lang.reflect.Method;
import java.lang.reflect.Modifier;
import java.nio.file.Files;
import java.nio.file.Path;
import java.util.ArrayDeque;
import java.util.Collections;
import java.util.IdentityHashMap;
import java.util.Map;
import java.util.Set;
import java.util.TreeMap;
import java.util.TreeSet;
import java.util.regex.Matcher;
import java.util.regex.Pattern;
import java.util.spi.ToolProvider;

/** The face of the class, the rules of LANGUAGE.md that can be seen in its text, and the room that an object takes. */
public final class FaceTest {
    private static int wrong = 0;

    private static final String[] CALLS = {
        "int letters(int)", "int letter(int)", "int clear()", "int slot(int)", "int at(int,int)", "int length(int)",
        "int law(int,int)", "int free()", "int see(int)", "int seen()", "int least()", "int rule(int,boolean,int)",
        "int closed()", "int reduce(int,int)", "int like(int,int)", "int states()", "int leads(int,int)",
        "long count(int)", "long size()", "int nth(long,int)", "long rank(int)", "int power(int,int,int)",
        "int order(int)", "int inverse(int,int)", "int makes(int,int)", "int total(int)"
    };

    private static void due(boolean is, String what) {
        if (!is) {
            wrong++;
            System.out.println(what);
        }
    }

    private static String face(Method method) {
        StringBuilder s = new StringBuilder(method.getReturnType().getName()).append(' ').append(method.getName()).append('(');
        Class<?>[] types = method.getParameterTypes();
        for (int i = 0; i < types.length; i++) s.append(i > 0 ? "," : "").append(types[i].getName());
        return s.append(')').toString();
    }

    private static void lookAtFace() {
        Set<String> asked = new TreeSet<>(Set.of(CALLS));
        Set<String> names = new TreeSet<>();
        for (String call : CALLS) names.add(call.substring(call.indexOf(' ') + 1, call.indexOf('(')));
        Set<String> found = new TreeSet<>();
        due(Modifier.isFinal(LikeWords.class.getModifiers()), "the class is not final");
        for (Method method : LikeWords.class.getDeclaredMethods()) {
            if (method.isSynthetic()) continue;
            if (Modifier.isPublic(method.getModifiers())) found.add(face(method));
            else {
                due(Modifier.isPrivate(method.getModifiers()), face(method) + " is neither public nor private");
                due(!names.contains(method.getName()), face(method) + " bears the name of a public one");
            }
        }
        due(found.equals(asked), "the public methods are " + found + ", due are " + asked);
        Set<String> constants = new TreeSet<>();
        for (Field field : LikeWords.class.getDeclaredFields()) {
            if (Modifier.isPublic(field.getModifiers())) constants.add(field.getName());
            else due(Modifier.isPrivate(field.getModifiers()), field.getName() + " is neither public nor private");
            due(!Modifier.isStatic(field.getModifiers()) || Modifier.isFinal(field.getModifiers()), field.getName() + " is static");
        }
        due(constants.equals(Set.of("UNKNOWN", "OUTSIDE", "STATE", "FULL", "NONE")), "the constants are " + constants);
        due(LikeWords.class.getConstructors().length == 1, "there is not one public constructor");
        for (Class<?> inside : LikeWords.class.getDeclaredClasses()) {
            due(Modifier.isStatic(inside.getModifiers()), inside.getName() + " is not static");
            due(inside.getDeclaredFields().length <= 20, inside.getName() + " has too many fields");
        }
        due(LikeWords.class.getDeclaredClasses().length <= 11, "there are too many classes");
        due(LikeWords.UNKNOWN == -1 && LikeWords.OUTSIDE == -2 && LikeWords.STATE == -3 && LikeWords.FULL == -4
                && LikeWords.NONE == -9, "a constant is not as told");
    }

    private static void lookAtText() throws Exception {
        String text = Files.readString(Path.of("src/main/java/LikeWords.java"));
        String code = Pattern.compile("/\\*.*?\\*/|//[^\n]*", Pattern.DOTALL).matcher(text).replaceAll("");
        String banned = "\\b(throw|throws|try|catch|finally|synchronized|assert|import|package|var|protected|native|volatile"
                + "|Object|Random|Thread|System|Class|Exception|Error|equals|hashCode|toString|\\w+Exact)\\b|->|::|\"";
        Matcher matcher = Pattern.compile(banned).matcher(code);
        while (matcher.find()) due(false, "the text has " + matcher.group());
        int open = 0;
        int since = 0;
        int line = 0;
        boolean isMethod = false;
        for (String row : text.split("\n")) {
            line++;
            due(row.length() <= 120, "line " + line + " is too long");
            if (row.matches("    (    )?(public|private|final|static|[a-zA-Z\\[\\]]+) ?.*\\) \\{") && !row.contains(" class ")) {
                since = line;
                isMethod = true;
            }
            if (isMethod && row.matches("    (    )?\\}")) {
                due(line - since <= 60, "the method of line " + since + " is too long");
                isMethod = false;
            }
            for (char c : row.toCharArray()) open += c == '{' ? 1 : c == '}' ? -1 : 0;
        }
        due(open == 0, "the text's brackets do not close");
    }

    /** Which methods each method of the compiled class calls, those of the library too; none if there is no javap. */
    private static Map<String, Set<String>> calls() throws Exception {
        Path room = Path.of(LikeWords.class.getProtectionDomain().getCodeSource().getLocation().toURI());
        ToolProvider javap = ToolProvider.findFirst("javap").orElse(null);
        Pattern head = Pattern.compile("  (?:[a-z]+ )*(?:[\\w$.\\[\\]]+ )?([\\w$]+)\\(.*\\);");
        Pattern call = Pattern.compile(".* // Method ([^:]+):.*");
        Map<String, Set<String>> all = new TreeMap<>();
        if (javap == null) return all;
        try (var files = Files.list(room)) {
            for (Path file : files.toList()) {
                String owner = file.getFileName().toString().replace(".class", "");
                if (!owner.matches("LikeWords(\\$\\w+)?")) continue;
                StringWriter text = new StringWriter();
                javap.run(new PrintWriter(text), new PrintWriter(System.err), "-c", "-p", file.toString());
                Set<String> now = null;
                for (String row : text.toString().split("\\R")) {
                    Matcher begun = head.matcher(row);
                    Matcher called = call.matcher(row);
                    if (begun.matches()) {
                        String name = begun.group(1).equals(owner) ? "\"<init>\"" : begun.group(1);
                        now = all.computeIfAbsent(owner + "." + name, key -> new TreeSet<>());
                    } else if (now != null && called.matches()) {
                        String name = called.group(1);
                        now.add(name.contains(".") ? name : owner + "." + name);
                    }
                }
            }
        }
        return all;
    }

    /** How many calls stand open at once at most; a method that comes back to itself goes too deep. */
    private static int depth(Map<String, Set<String>> calls, String method, int open) {
        int most = 0;
        for (String next : calls.getOrDefault(method, Set.of())) {
            if (open < 20) most = Math.max(most, depth(calls, next, open + 1));
        }
        return 1 + most;
    }

    private static void lookAtDepth() throws Exception {
        Map<String, Set<String>> calls = calls();
        if (calls.isEmpty()) {
            System.out.println("there is no javap, so how deep calls go is not looked at");
            return;
        }
        int most = 0;
        for (String call : CALLS) {
            String method = "LikeWords." + call.substring(call.indexOf(' ') + 1, call.indexOf('('));
            due(calls.containsKey(method), "the compiled class has no " + method);
            int depth = depth(calls, method, 1);
            due(depth <= 8, method + " goes " + depth + " calls deep");
            most = Math.max(most, depth);
        }
        due(most > 4, "calls go " + most + " deep, which can't be");
        due(depth(calls, "LikeWords.\"<init>\"", 1) <= 8, "the constructor goes too deep");
    }

    /** README.md says so, and the number in the words is not far from that which is found. */
    private static void dueSaid(String words, long found) throws Exception {
        due(Files.readString(Path.of("README.md")).contains(words), "README.md does not say " + words);
        long said = Long.parseLong(words.replaceAll("\\D", ""));
        due(Math.abs(said - found) * 100 <= found, "README.md says " + words + ", there are " + found);
    }

    /** Objects and arrays that an object holds, and their fields and elements. */
    private static long[] room(Object start) throws Exception {
        Set<Object> met = Collections.newSetFromMap(new IdentityHashMap<>());
        ArrayDeque<Object> open = new ArrayDeque<>();
        open.add(start);
        met.add(start);
        long parts = 0;
        while (!open.isEmpty()) {
            Object now = open.poll();
            if (now.getClass().isArray()) {
                int many = Array.getLength(now);
                parts += many;
                for (int i = 0; i < many && now instanceof Object[]; i++) meet(Array.get(now, i), met, open);
                continue;
            }
            for (Field field : now.getClass().getDeclaredFields()) {
                if (Modifier.isStatic(field.getModifiers())) continue;
                parts++;
                field.setAccessible(true);
                if (!field.getType().isPrimitive()) meet(field.get(now), met, open);
            }
        }
        return new long[] {met.size(), parts};
    }

    private static void meet(Object found, Set<Object> met, ArrayDeque<Object> open) {
        if (found != null && met.add(found)) open.add(found);
    }

    private static void lookAtRoom() throws Exception {
        LikeWords x = new LikeWords();
        long[] before = room(x);
        due(before[0] * 513 <= 600000, "512 objects would take " + before[0] * 513 + " objects and arrays");
        due(before[1] * 513 <= 7300000, "512 objects would take " + before[1] * 513 + " fields and elements");
        x.letter(0);
        x.letter(0);
        x.slot(1);
        x.law(1, 0);
        x.see(12);
        x.makes(1, 0);
        x.inverse(1, 2);
        x.nth(1000, 3);
        x.rank(3);
        long[] after = room(x);
        due(after[0] == before[0] && after[1] == before[1], "the object has grown");
        dueSaid("some 13,700 elements", before[1]);
        lookAtWideGrower(lookAtGrower(before[1]));
        System.out.println("an object takes " + before[0] + " objects and arrays, " + before[1] + " fields and elements");
    }

    private static void put(LikeWords x, int slot, String s) {
        for (char c : s.toCharArray()) x.letter(c - '0');
        x.slot(slot);
    }

    /** A long way makes the Grower, once: a run of 513 calls has room for objects with it that take 25 calls each. */
    private static long lookAtGrower(long without) throws Exception {
        LikeWords x = new LikeWords();
        x.letters(3);
        String[] sides = {"20", "00", "012", "100", "12", "21"};
        for (int i = 0; i < sides.length; i++) {
            put(x, i % 2, sides[i]);
            if (i % 2 == 1) x.law(0, 1);
        }
        x.see(3);
        put(x, 0, "1".repeat(20) + "0".repeat(40));
        x.reduce(0, 1);
        long[] once = room(x);
        due(once[0] * 20 <= 600000 && once[1] * 20 <= 7300000, "with the Grower it takes " + once[1] + " elements");
        dueSaid("some 132,000 elements", once[1] - without);
        put(x, 2, "1".repeat(25) + "0".repeat(35));
        x.reduce(2, 1);
        x.see(4);
        x.reduce(2, 1);
        x.power(0, 1, 3);
        long[] twice = room(x);
        due(once[0] == twice[0] && once[1] == twice[1], "the object has grown twice");
        System.out.println("with the Grower it takes " + once[0] + " objects and arrays, " + once[1] + " fields and elements");
        return once[1];
    }

    /** A very long way makes more room, once; of what was made before, the rows of what is known are given up. */
    private static void lookAtWideGrower(long narrow) throws Exception {
        LikeWords x = new LikeWords();
        x.letters(4);
        String[] sides = {"20", "03", "30", "23", "3100", "0131", "3110", "0133", "3101", "0133", "3111", "0111"};
        for (int i = 0; i < sides.length; i++) {
            put(x, i % 2, sides[i]);
            if (i % 2 == 1) x.law(0, 1);
        }
        x.see(4);
        put(x, 0, "33333310011001001011001110111001101011101111011011111111111111".substring(0, 60));
        x.reduce(0, 1);
        long[] once = room(x);
        long made = once[1] + 4 * 32768;
        due(once[1] > 1000000, "the way was not long enough to ask for more room");
        dueSaid("some 1,050,000", made - narrow);
        due(made * 6 <= 7300000, "six objects with wide Growers would take " + made * 6 + " fields and elements");
        x.reduce(0, 1);
        long[] twice = room(x);
        due(once[0] == twice[0] && once[1] == twice[1], "the wide object has grown");
        System.out.println("with a wide Grower it takes " + once[1] + " fields and elements");
    }

    public static void main(String[] args) throws Exception {
        lookAtFace();
        lookAtText();
        lookAtDepth();
        lookAtRoom();
        System.out.println(wrong == 0 ? "the face is as due" : wrong + " things are not as due");
        if (wrong != 0) System.exit(1);
    }
}
