import java.io.IOException;
import java.io.StringWriter;
import java.lang.reflect.Method;
import java.net.URI;
import java.net.URL;
import java.net.URLClassLoader;
import java.nio.file.DirectoryStream;
import java.nio.file.Files;
import java.nio.file.Path;
import java.util.ArrayList;
import java.util.Collections;
import java.util.List;
import java.util.Set;
import java.util.TreeSet;
import java.util.regex.Matcher;
import java.util.regex.Pattern;
import javax.tools.JavaCompiler;
import javax.tools.JavaFileObject;
import javax.tools.SimpleJavaFileObject;
import javax.tools.ToolProvider;

/** What README.md shows of the class's use does what it says there, and every test is named in it. */
public final class ReadmeTest {
    private static final Pattern ANSWERED = Pattern.compile("(.*);\\s+// (.*)");
    private static final Pattern NAMED = Pattern.compile("`(\\w+Test)`");
    // The calls of the face: an example of each is to be seen.
    private static final String[] FACE = {"feed", "back", "read", "param", "run", "told", "count", "real", "segment", "bank", "cell",
        "pocket"};

    public static void main(String[] args) throws Exception {
        String readme = Files.readString(Path.of("README.md"));
        List<String> blocks = blocks(readme);
        String source = source(blocks);
        Path folder = Files.createTempDirectory("readme");
        try {
            if (compiles(source, folder)) {
                compare(answers(folder));
            }
        } finally {
            remove(folder);
        }
        for (String call : FACE) {
            Cells.due("README shows " + call, String.join("\n", blocks).contains("cell." + call + "("), true);
        }
        Cells.due("README names the tests", testsNamed(readme).toString().equals(testsThere().toString()), true);
        Cells.due("README tells of .ci/run", readme.contains("`.ci/run`"), true);
        Cells.end();
    }

    private static List<String> blocks(String readme) {
        List<String> found = new ArrayList<>();
        Matcher m = Pattern.compile("(?s)\n```java\n(.*?)\n```\n").matcher(readme);
        while (m.find()) {
            found.add(m.group(1));
        }
        Cells.due("README has examples", found.size() >= 2, true);
        return found;
    }

    /** A block of methods stays as it is, one of calls becomes a method of its own. */
    private static String source(List<String> blocks) {
        StringBuilder all = new StringBuilder("public class Shown {\n"
            + "static java.util.List<String> answers = new java.util.ArrayList<>();\n"
            + "static void answer(String call, Object got, Object want) {\n"
            + "answers.add(call); answers.add(String.valueOf(got)); answers.add(String.valueOf(want));\n}\n");
        StringBuilder main = new StringBuilder("public static java.util.List<String> answers() {\n");
        for (int n = 0; n < blocks.size(); n++) {
            if (blocks.get(n).startsWith("static ")) {
                all.append(blocks.get(n)).append('\n');
            } else {
                main.append("shown").append(n).append("();\n");
                all.append("static void shown").append(n).append("() {\n");
                for (String line : blocks.get(n).split("\n")) {
                    all.append(checked(line)).append('\n');
                }
                all.append("}\n");
            }
        }
        return all.append(main).append("return answers;\n}\n}\n").toString();
    }

    /** A call with its answer behind // is compared with it; another line is done as it stands. */
    private static String checked(String line) {
        Matcher m = ANSWERED.matcher(line);
        if (!m.matches()) {
            return line;
        }
        String call = m.group(1);
        String want = m.group(2).split(":")[0];
        String quoted = "\"" + call.replace("\"", "'") + "\"";
        if (want.startsWith("throws ")) {
            String name = "\"" + want.substring("throws ".length()) + "\"";
            return "try { " + call + "; answer(" + quoted + ", \"no exception\", " + name + "); }"
                + " catch (RuntimeException e) { answer(" + quoted + ", e.getClass().getSimpleName(), " + name + "); }";
        }
        return "answer(" + quoted + ", " + call + ", " + want + ");";
    }

    private static boolean compiles(String source, Path folder) {
        JavaCompiler compiler = ToolProvider.getSystemJavaCompiler();
        JavaFileObject file = new SimpleJavaFileObject(URI.create("string:///Shown.java"), JavaFileObject.Kind.SOURCE) {
            @Override
            public CharSequence getCharContent(boolean ignoreEncodingErrors) {
                return source;
            }
        };
        List<String> options = List.of("-d", folder.toString(), "-cp", System.getProperty("java.class.path"));
        StringWriter words = new StringWriter();
        boolean good = compiler.getTask(words, null, null, options, null, Collections.singletonList(file)).call();
        System.out.print(words);
        Cells.due("README's examples compile", good, true);
        return good;
    }

    private static List<?> answers(Path folder) throws Exception {
        URL[] places = {folder.toUri().toURL()};
        try (URLClassLoader loader = new URLClassLoader(places, ReadmeTest.class.getClassLoader())) {
            Method shown = loader.loadClass("Shown").getMethod("answers");
            return (List<?>) shown.invoke(null);
        }
    }

    private static void compare(List<?> answers) {
        Cells.due("README tells answers", answers.size() >= 3, true);
        for (int i = 0; i + 2 < answers.size(); i += 3) {
            Object got = answers.get(i + 1);
            Object want = answers.get(i + 2);
            Cells.due("README's " + answers.get(i) + ", shown " + want + ", got " + got + ": the same", got.equals(want), true);
        }
    }

    private static Set<String> testsNamed(String readme) {
        Set<String> names = new TreeSet<>();
        Matcher m = NAMED.matcher(readme);
        while (m.find()) {
            names.add(m.group(1));
        }
        return names;
    }

    private static Set<String> testsThere() throws IOException {
        Set<String> names = new TreeSet<>();
        try (DirectoryStream<Path> tests = Files.newDirectoryStream(Path.of("src/test/java"), "*Test.java")) {
            for (Path test : tests) {
                names.add(test.getFileName().toString().replace(".java", ""));
            }
        }
        return names;
    }

    private static void remove(Path folder) throws IOException {
        try (DirectoryStream<Path> files = Files.newDirectoryStream(folder)) {
            for (Path file : files) {
                Files.delete(file);
            }
        }
        Files.delete(folder);
    }
}
