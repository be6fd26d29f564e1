import java.net.URL;
import java.net.URLClassLoader;
import java.nio.file.Files;
import java.nio.file.Path;
import javax.tools.JavaCompiler;
import javax.tools.ToolProvider;

/**
 * The Grower stands in where the plain way is long, which ordinary laws never ask for. Here the plain way is taken
 * out of the class, so that the Grower does all, and the other tests run on that; also with so little room that what
 * is known is driven out all the time, and with short laps, so that ways go on from one to the next.
 */
public final class GrowerAloneTest {
    private static final String MAIN = "src/main/java/LikeWords.java";
    private static final String[] ALONE = {"PLAIN_TURNS = 20000;", "PLAIN_TURNS = 0;"};
    private static final String[] CRAMPED = {
        "PLAIN_TURNS = 20000;", "PLAIN_TURNS = 0;", " ROOM = 32768;", " ROOM = 8;", "WIDE_ROOM = 262144;", "WIDE_ROOM = 32;",
        "LONG_WAY = 1000000;", "LONG_WAY = 20;", "MANY = 1L << 62;", "MANY = 1L << 10;"
    };

    private static void fail(String why) {
        System.out.println(why);
        System.exit(1);
    }

    private static void run(URLClassLoader loader, String test, String... args) throws Exception {
        loader.loadClass(test).getMethod("main", String[].class).invoke(null, (Object) args);
    }

    private static String changed(String[] changes) throws Exception {
        String text = Files.readString(Path.of(MAIN));
        for (int i = 0; i < changes.length; i += 2) {
            if (!text.contains(changes[i])) fail(MAIN + " has no " + changes[i]);
            text = text.replace(changes[i], changes[i + 1]);
        }
        return text;
    }

    private static void runOn(String[] changes, boolean isLong, String firstSeed, String lastSeed) throws Exception {
        Path room = Files.createTempDirectory("grower");
        Path main = room.resolve("LikeWords.java");
        Files.writeString(main, changed(changes));
        JavaCompiler compiler = ToolProvider.getSystemJavaCompiler();
        if (compiler == null) fail("there is no compiler");
        int got = compiler.run(null, null, null, "--release", "17", "-d", room.toString(), main.toString(),
                "src/test/java/PromisesTest.java", "src/test/java/EdgesTest.java", "src/test/java/PlainModelTest.java",
                "src/test/java/ManyWordsTest.java", "src/test/java/LongWaysTest.java");
        if (got != 0) fail("the changed class does not compile");
        URL[] where = {room.toUri().toURL()};
        try (URLClassLoader loader = new URLClassLoader(where, ClassLoader.getPlatformClassLoader())) {
            run(loader, "PromisesTest");
            run(loader, "EdgesTest");
            run(loader, "PlainModelTest", firstSeed, lastSeed);
            run(loader, "ManyWordsTest");
            if (isLong) run(loader, "LongWaysTest");
        }
        try (var files = Files.list(room)) {
            for (Path file : files.toList()) Files.delete(file);
        }
        Files.delete(room);
    }

    public static void main(String[] args) throws Exception {
        runOn(ALONE, true, "300", "500");
        runOn(CRAMPED, false, "500", "700");
    }
}
