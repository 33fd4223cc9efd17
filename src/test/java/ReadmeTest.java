import java.io.File;
import java.lang.reflect.InvocationTargetException;
import java.net.URL;
import java.net.URLClassLoader;
import java.nio.file.Files;
import java.nio.file.Path;
import java.util.regex.Matcher;
import java.util.regex.Pattern;
import javax.tools.ToolProvider;

/** What README.md says of the class is so: its code is compiled and run, each call with the answer that stands behind it. */
public final class ReadmeTest {
    private static final Pattern BLOCK = Pattern.compile("```java\n(.*?)```", Pattern.DOTALL);
    // A call at the head of a line, over one line or more, and the number that begins the remark behind it.
    private static final Pattern CALL = Pattern.compile("^((?:x\\.|tell\\()(?:[^;\"]|\"[^\"]*\")*);[ ]+// (-?\\d+)\\b", Pattern.MULTILINE);

    public static void main(String[] args) throws Exception {
        String page = Files.readString(Path.of("README.md"));
        StringBuilder methods = new StringBuilder();
        StringBuilder lines = new StringBuilder();
        for (Matcher m = BLOCK.matcher(page); m.find();) (m.group(1).startsWith("static ") ? methods : lines).append(m.group(1));
        int answers = answersIn(lines.toString());
        Check.due("calls with an answer on the page, one a remark", answers, lines.toString().split("// ", -1).length - 1);
        Check.due("there are some", answers >= 15, true);
        run("public class Page {\n" + methods + "public static void main(String[] a) {\n"
            + CALL.matcher(lines).replaceAll(m -> Matcher.quoteReplacement(held(m.group(1), m.group(2)))) + "}\n}\n");
        testsAreNamed(page);
        Check.finish();
    }

    private static int answersIn(String lines) { return (int) CALL.matcher(lines).results().count(); }

    private static String held(String call, String answer) {
        String name = call.replace("\\", "\\\\").replace("\"", "\\\"").replace("\n", " ");
        return "ReadmeTest.due(\"README: " + name + "\", " + call + ", " + answer + "L); // ";
    }

    /** Public, as the page's code is loaded by a loader of its own. */
    public static void due(String call, long got, long want) { Check.due(call, got, want); }

    private static void run(String source) throws Exception {
        Path folder = Files.createTempDirectory("readme");
        File file = folder.resolve("Page.java").toFile();
        Files.writeString(file.toPath(), source);
        int compiled = ToolProvider.getSystemJavaCompiler().run(null, null, null, "-cp", System.getProperty("java.class.path"), "-d", folder.toString(), file.toString());
        Check.due("compiles", compiled, 0);
        if (compiled == 0) {
            try (URLClassLoader loader = new URLClassLoader(new URL[] {folder.toUri().toURL()})) {
                loader.loadClass("Page").getMethod("main", String[].class).invoke(null, (Object) new String[0]);
            } catch (InvocationTargetException e) {
                Check.due("the code on the page", "throws " + e.getCause(), "throws nothing");
            }
        }
        for (File f : folder.toFile().listFiles()) f.delete();
        folder.toFile().delete();
    }

    /** Every test of the project stands on the page, and none that is not there. */
    private static void testsAreNamed(String page) {
        for (File f : new File("src/test/java").listFiles()) {
            String name = f.getName().replace(".java", "");
            Check.due(name + " is named", page.contains("`" + name + "`"), true);
        }
        for (Matcher m = Pattern.compile("`(\\w+Test)`").matcher(page); m.find();) {
            Check.due(m.group(1) + " is there", new File("src/test/java/" + m.group(1) + ".java").exists(), true);
        }
    }
}
