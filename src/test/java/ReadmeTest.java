import java.io.File;
import java.io.IOException;
import java.lang.reflect.InvocationTargetException;
import java.net.URL;
import java.net.URLClassLoader;
import java.nio.file.Files;
import java.nio.file.Path;
import java.util.regex.Matcher;
import java.util.regex.Pattern;
import javax.tools.ToolProvider;

/** What README.md tells: its programs run, their answers are as it says, its tests are there. */
public final class ReadmeTest {
    private static final Pattern PROGRAM = Pattern.compile("```java\n(.*?)```", Pattern.DOTALL);
    private static final Pattern ANSWER =
        Pattern.compile("^(x\\.\\w+\\([^;]*\\));\\s*// (-?\\d+)[:,].*$", Pattern.MULTILINE);
    private static final Pattern CALL = Pattern.compile("^x\\.", Pattern.MULTILINE);
    private static final Pattern TEST = Pattern.compile("`(\\w+Test)`");

    private ReadmeTest() {
    }

    public static void main(String[] args) throws Exception {
        String page = Files.readString(Path.of("README.md"));
        programs(page);
        tests(page);
        Check.close("ReadmeTest");
    }

    /** All programs of the page are one: they go on where the one before ended. */
    private static void programs(String page) throws Exception {
        StringBuilder body = new StringBuilder();
        Matcher program = PROGRAM.matcher(page);
        while (program.find()) {
            body.append(program.group(1));
        }
        long answers = ANSWER.matcher(body).results().count();
        Check.due("calls whose answers are told", answers, CALL.matcher(body).results().count());
        Check.due("there are such calls", answers > 20 ? 1 : 0, 1);
        String checked = ANSWER.matcher(body).replaceAll("due(\"$1\", $1, $2);");
        run("public final class ReadmeProgram {\n"
            + "static int others;\n"
            + "static void due(String call, long got, long want) { if (got != want) { others++;\n"
            + "System.out.println(call + \" answered \" + got + \", README.md says \" + want); } }\n"
            + "public static int run() {\n" + checked + "return others;\n}\n}\n");
    }

    private static void run(String source) throws IOException, ReflectiveOperationException {
        Path room = Files.createTempDirectory("readme");
        Path file = room.resolve("ReadmeProgram.java");
        Files.writeString(file, source);
        int compiled = ToolProvider.getSystemJavaCompiler().run(null, null, null, "-cp",
            System.getProperty("java.class.path"), "-d", room.toString(), file.toString());
        Check.due("the programs compile", compiled, 0);
        try (URLClassLoader loader = new URLClassLoader(new URL[] {room.toUri().toURL()})) {
            Object wrong = loader.loadClass("ReadmeProgram").getMethod("run").invoke(null);
            Check.due("answers that are not as told", (Integer) wrong, 0);
        } catch (ClassNotFoundException | InvocationTargetException e) {
            Check.due("the programs run: " + e, 1, 0);
        } finally {
            for (File f : room.toFile().listFiles()) {
                f.delete();
            }
            room.toFile().delete();
        }
    }

    private static void tests(String page) {
        Matcher test = TEST.matcher(page);
        while (test.find()) {
            boolean there = Files.exists(Path.of("src/test/java", test.group(1) + ".java"));
            Check.due(test.group(1) + " is there", there ? 1 : 0, 1);
        }
        for (int promise = 1; promise <= 39; promise++) {
            String name = String.format("Promise%02d", promise);
            String[] found = new File("src/test/java").list((d, n) -> n.matches(name + "\\w+Test\\.java"));
            Check.due("tests named " + name, found == null ? 0 : found.length, 1);
        }
    }
}
