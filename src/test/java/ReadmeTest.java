import java.io.ByteArrayOutputStream;
import java.io.IOException;
import java.io.PrintStream;
import java.lang.reflect.Method;
import java.lang.reflect.Modifier;
import java.net.URL;
import java.net.URLClassLoader;
import java.nio.charset.StandardCharsets;
import java.nio.file.DirectoryStream;
import java.nio.file.Files;
import java.nio.file.Path;
import java.util.ArrayList;
import java.util.List;
import java.util.TreeSet;
import java.util.regex.Matcher;
import java.util.regex.Pattern;
import javax.tools.JavaCompiler;
import javax.tools.ToolProvider;

/** README.md: its example answers as the program does, and it names each call, each test, and how they are run. */
public final class ReadmeTest {
    private static int wrong = 0;

    public static void main(String[] args) throws IOException, ReflectiveOperationException {
        String readme = Files.readString(Path.of("README.md"), StandardCharsets.UTF_8);
        example(blocks(readme, "java"), blocks(readme, "text"));
        calls(readme);
        tests(readme);
        commands(blocks(readme, "sh"));
        System.out.println(wrong == 0 ? "README.md tells what is" : wrong + " faults");
        if (wrong != 0) {
            System.exit(1);
        }
    }

    private static void need(boolean holds, String what) {
        if (!holds) {
            wrong++;
            System.out.println(what);
        }
    }

    private static List<String> blocks(String readme, String kind) {
        List<String> found = new ArrayList<>();
        Matcher m = Pattern.compile("(?s)\n```" + kind + "\n(.*?)```\n").matcher(readme);
        while (m.find()) {
            found.add(m.group(1));
        }
        return found;
    }

    // ---- the example

    private static void example(List<String> programs, List<String> answers) throws IOException, ReflectiveOperationException {
        need(programs.size() == 1 && answers.size() == 1, "one example, and what it prints");
        if (wrong == 0) {
            String got = printed(programs.get(0));
            need(got.equals(answers.get(0)), "the example prints:\n" + got + "README.md says:\n" + answers.get(0));
        }
    }

    private static String printed(String program) throws IOException, ReflectiveOperationException {
        JavaCompiler compiler = ToolProvider.getSystemJavaCompiler();
        if (compiler == null) {
            return "there is no compiler\n";
        }
        Path dir = Files.createTempDirectory("readme");
        try {
            Path source = Files.writeString(dir.resolve("Example.java"), program);
            String classPath = System.getProperty("java.class.path");
            int failed = compiler.run(null, System.out, System.out, "-proc:none", "-cp", classPath, "-d", dir.toString(), source.toString());
            return failed != 0 ? "the example is not compiled\n" : printedBy(dir);
        } finally {
            clear(dir);
        }
    }

    private static String printedBy(Path dir) throws IOException, ReflectiveOperationException {
        PrintStream before = System.out;
        ByteArrayOutputStream bytes = new ByteArrayOutputStream();
        try (URLClassLoader loader = new URLClassLoader(new URL[] {dir.toUri().toURL()}, OctavianDesk.class.getClassLoader())) {
            System.setOut(new PrintStream(bytes, true, StandardCharsets.UTF_8));
            loader.loadClass("Example").getMethod("main", String[].class).invoke(null, (Object) new String[0]);
        } finally {
            System.setOut(before);
        }
        return bytes.toString(StandardCharsets.UTF_8).replace("\r\n", "\n");
    }

    private static void clear(Path dir) throws IOException {
        try (DirectoryStream<Path> files = Files.newDirectoryStream(dir)) {
            for (Path file : files) {
                Files.delete(file);
            }
        }
        Files.delete(dir);
    }

    // ---- what is named

    private static void calls(String readme) {
        TreeSet<String> due = new TreeSet<>();
        for (Method m : OctavianDesk.class.getDeclaredMethods()) {
            if (Modifier.isPublic(m.getModifiers())) {
                due.add(m.getName());
            }
        }
        TreeSet<String> named = new TreeSet<>();
        Matcher row = Pattern.compile("\n\\| [a-z ]+ \\|([^|\n]*)\\|").matcher(readme);
        while (row.find()) {
            Matcher call = Pattern.compile("`(\\w+)`").matcher(row.group(1));
            while (call.find()) {
                need(named.add(call.group(1)), "named twice: " + call.group(1));
            }
        }
        need(named.equals(due), "the table of the calls names " + named);
        need(readme.contains("`OctavianDesk.NONE` (" + OctavianDesk.NONE + ")"), "NONE is not named");
    }

    private static void tests(String readme) throws IOException {
        String about = readme.substring(readme.indexOf("\n## How to run its tests\n") + 1);
        try (DirectoryStream<Path> files = Files.newDirectoryStream(Path.of("src/test/java"))) {
            for (Path file : files) {
                String name = file.getFileName().toString().replace(".java", "");
                need(about.contains("`" + name + "`"), "not named: " + name);
            }
        }
        Matcher test = Pattern.compile("`(\\w+Test)`").matcher(about);
        while (test.find()) {
            need(Files.exists(Path.of("src/test/java", test.group(1) + ".java")), "there is no " + test.group(1));
        }
    }

    /** The files that the commands name are there, and .ci/run can be run. */
    private static void commands(List<String> commands) {
        String all = String.join("", commands);
        need(all.contains(".ci/run\n") && Files.isExecutable(Path.of(".ci/run")), "how to run the tests");
        Matcher file = Pattern.compile("src/\\S+").matcher(all);
        while (file.find()) {
            need(Files.exists(Path.of(file.group())), "there is no " + file.group());
        }
    }
}
