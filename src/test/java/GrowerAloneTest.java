import java.net.URL;
import java.net.URLClassLoader;
import java.nio.file.Files;
import java.nio.file.Path;
import javax.tools.JavaCompiler;
import javax.tools.ToolProvider;

/**
 * The Grower stands in where the plain way is long, which ordinary laws never ask for. Here the plain way is taken
 * out of the class, so that the Grower does all, and the other tests run on that.
 */
public final class GrowerAloneTest {
    private static final String MAIN = "src/main/java/LikeWords.java";
    private static final String BOUND = "PLAIN_TURNS = 20000;";

    private static void fail(String why) {
        System.out.println(why);
        System.exit(1);
    }

    private static void run(URLClassLoader loader, String test, String... args) throws Exception {
        loader.loadClass(test).getMethod("main", String[].class).invoke(null, (Object) args);
    }

    public static void main(String[] args) throws Exception {
        String text = Files.readString(Path.of(MAIN));
        if (!text.contains(BOUND)) fail(MAIN + " has no " + BOUND);
        Path room = Files.createTempDirectory("grower");
        Path changed = room.resolve("LikeWords.java");
        Files.writeString(changed, text.replace(BOUND, "PLAIN_TURNS = 0;"));
        JavaCompiler compiler = ToolProvider.getSystemJavaCompiler();
        if (compiler == null) fail("there is no compiler");
        int got = compiler.run(null, null, null, "--release", "17", "-d", room.toString(), changed.toString(),
                "src/test/java/PromisesTest.java", "src/test/java/PlainModelTest.java", "src/test/java/LongWaysTest.java");
        if (got != 0) fail("the changed class does not compile");
        URL[] where = {room.toUri().toURL()};
        try (URLClassLoader loader = new URLClassLoader(where, ClassLoader.getPlatformClassLoader())) {
            run(loader, "PromisesTest");
            run(loader, "LongWaysTest");
            run(loader, "PlainModelTest", "300", "500");
        }
        try (var files = Files.list(room)) {
            for (Path file : files.toList()) Files.delete(file);
        }
        Files.delete(room);
    }
}
