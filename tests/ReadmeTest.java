import java.io.File;
import java.io.IOException;
import java.lang.reflect.InvocationTargetException;
import java.lang.reflect.Method;
import java.lang.reflect.Modifier;
import java.net.URI;
import java.net.URL;
import java.net.URLClassLoader;
import java.nio.file.Files;
import java.nio.file.Path;
import java.util.ArrayList;
import java.util.List;
import java.util.regex.Matcher;
import java.util.regex.Pattern;
import javax.tools.JavaCompiler;
import javax.tools.JavaFileObject;
import javax.tools.SimpleJavaFileObject;
import javax.tools.ToolProvider;

/** README.md says what is so: its example is compiled and run, and no call and no test is missing from it. */
public final class ReadmeTest {
    public static void main(String[] args) throws IOException, ReflectiveOperationException {
        String readme = Files.readString(Path.of("README.md"));
        calls(readme);
        tests(readme);
        example(readme);
        Check.finish("ReadmeTest");
    }

    private static void calls(String readme) {
        for (Method method : TideMill.class.getDeclaredMethods()) {
            if (Modifier.isPublic(method.getModifiers())) {
                Check.same("README.md tells " + method.getName(), readme.contains("`" + method.getName() + "`"), true);
            }
        }
    }

    private static void tests(String readme) {
        int found = 0;
        for (String file : new File("tests").list()) {
            if (file.endsWith("Test.java")) {
                found++;
                String name = file.substring(0, file.length() - ".java".length());
                Check.same("README.md tells " + name, readme.contains("| `" + name + "` |"), true);
            }
        }
        Check.same("tests were found", found > 0, true);
        Matcher told = Pattern.compile("\\| `(\\w+Test)` \\|").matcher(readme);
        while (told.find()) {
            Check.same(told.group(1) + " is there", new File("tests/" + told.group(1) + ".java").isFile(), true);
        }
    }

    private static void example(String readme) throws IOException, ReflectiveOperationException {
        Matcher block = Pattern.compile("(?s)```java\n(.*?)```").matcher(readme);
        Check.same("README.md has an example", block.find(), true);
        String code = block.group(1);
        Object answer = answerOf(code.replace("mill.give(lot)", "int gain = mill.give(lot)"));
        List<Integer> got = new ArrayList<>();
        for (int one : (int[]) answer) {
            got.add(one);
        }
        Check.same("12 ticks, 7 into the purse", got.toString(), "[12, 7, 7]");
        Check.same("the example tells the ticks", code.contains("mill.wouldDone(lot); // 12\n"), true);
        Check.same("the example tells the purse", code.matches("(?s).*mill\\.give\\(lot\\); +// 7 into the purse\n"), true);
    }

    private static Object answerOf(String code) throws IOException, ReflectiveOperationException {
        String source = "public final class Example { public static int[] run() { " + code
                + " return new int[] {ticks, gain, mill.many(12)}; } }";
        Path folder = Files.createTempDirectory("example");
        try {
            compile(source, folder);
            try (URLClassLoader loader = new URLClassLoader(new URL[] {folder.toUri().toURL()})) {
                return loader.loadClass("Example").getMethod("run").invoke(null);
            }
        } catch (InvocationTargetException thrown) {
            Check.same("the example throws " + thrown.getCause(), true, false);
            return new int[0];
        } finally {
            Files.deleteIfExists(folder.resolve("Example.class"));
            Files.delete(folder);
        }
    }

    private static void compile(String source, Path folder) {
        JavaCompiler compiler = ToolProvider.getSystemJavaCompiler();
        JavaFileObject file = new SimpleJavaFileObject(URI.create("string:///Example.java"), JavaFileObject.Kind.SOURCE) {
            @Override
            public CharSequence getCharContent(boolean ignoreEncodingErrors) {
                return source;
            }
        };
        List<String> options = List.of("-proc:none", "-d", folder.toString(),
                "-cp", System.getProperty("java.class.path"));
        Check.same("the example compiles", compiler.getTask(null, null, null, options, null, List.of(file)).call(), true);
    }
}
