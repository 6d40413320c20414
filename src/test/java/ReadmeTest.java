import java.io.ByteArrayOutputStream;
import java.io.File;
import java.io.PrintStream;
import java.net.URL;
import java.net.URLClassLoader;
import java.nio.file.Files;
import java.nio.file.Path;
import java.util.regex.Matcher;
import java.util.regex.Pattern;
import javax.tools.ToolProvider;

/** Compiles and runs the example of README.md, and looks whether that page names each test and each method. */
public final class ReadmeTest {
    private static int wrong = 0;

    private static void blame(String what) {
        wrong++;
        System.out.println("README.md: " + what);
    }

    public static void main(String[] args) throws Exception {
        String page = Files.readString(Path.of("README.md"));
        String printed = runExample(block(page, "java"));
        if (!printed.equals(block(page, "text"))) {
            blame("the example prints\n" + printed);
        }
        lookForTests(page);
        lookForMethods(page);
        System.out.println("ReadmeTest: " + wrong + " wrong");
        if (wrong > 0) {
            System.exit(1);
        }
    }

    /** The one block of that language. */
    private static String block(String page, String language) {
        Matcher found = Pattern.compile("```" + language + "\\n(.*?)```", Pattern.DOTALL).matcher(page);
        if (!found.find()) {
            blame("no block of " + language);
            return "";
        }
        return found.group(1);
    }

    private static String runExample(String text) throws Exception {
        Path build = Files.createTempDirectory("example");
        Path file = build.resolve("Example.java");
        Files.writeString(file, text);
        int ended = ToolProvider.getSystemJavaCompiler().run(null, null, null, "-Xlint:all", "-Werror", "-d", build.toString(),
                "src/main/java/Callorder.java", file.toString());
        if (ended != 0) {
            blame("the example does not compile");
            return "";
        }
        ByteArrayOutputStream bytes = new ByteArrayOutputStream();
        PrintStream before = System.out;
        // no parent but the platform's: the example has what was compiled with it and nothing else
        try (URLClassLoader loader = new URLClassLoader(new URL[] {build.toUri().toURL()}, ClassLoader.getPlatformClassLoader())) {
            System.setOut(new PrintStream(bytes, true));
            loader.loadClass("Example").getMethod("main", String[].class).invoke(null, (Object) new String[0]);
        } finally {
            System.setOut(before);
            clear(build.toFile());
        }
        return bytes.toString().replace("\r", "");
    }

    private static void clear(File directory) {
        for (File file : directory.listFiles()) {
            file.delete();
        }
        directory.delete();
    }

    private static void lookForTests(String page) {
        for (String name : new File("src/test/java").list()) {
            if (name.endsWith("Test.java") && !page.contains("| `" + name.replace(".java", "") + "` |")) {
                blame("no word of " + name);
            }
        }
    }

    private static void lookForMethods(String page) {
        for (java.lang.reflect.Method method : Callorder.class.getDeclaredMethods()) {
            boolean isPublic = java.lang.reflect.Modifier.isPublic(method.getModifiers());
            if (isPublic && !page.contains("`" + method.getName() + "`")) {
                blame("no word of " + method.getName());
            }
        }
    }
}
