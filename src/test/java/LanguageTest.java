import java.lang.reflect.Constructor;
import java.lang.reflect.Field;
import java.lang.reflect.Member;
import java.lang.reflect.Method;
import java.lang.reflect.Modifier;
import java.nio.charset.StandardCharsets;
import java.nio.file.Files;
import java.nio.file.Path;
import java.util.Arrays;
import java.util.List;
import java.util.Set;
import java.util.TreeSet;
import java.util.regex.Matcher;
import java.util.regex.Pattern;

/** What LANGUAGE.md rules out and a look at the source or the class can find. */
public final class LanguageTest {
    private static final List<String> FACE = Arrays.asList("feed", "back", "read", "param", "run", "told", "count", "real", "segment",
        "bank", "cell", "pocket");

    public static void main(String[] args) throws Exception {
        String source = new String(Files.readAllBytes(Path.of("src/main/java/MillCell.java")), StandardCharsets.UTF_8);
        String code = source.replaceAll("(?s)/\\*.*?\\*/", " ").replaceAll("//[^\n]*", " ").replaceAll("\"[^\"\n]*\"", "\"\"");
        words(code);
        face();
        sizes(code);
        Cells.end();
    }

    private static void words(String code) {
        String[] none = {"->", "::", "\\bimport\\b", "\\bpackage\\b", "\\bfinally\\b", "\\bassert\\b", "\\bsynchronized\\b", "\\bvar\\b",
            "\\bDouble\\.", "\\bFloat\\.", "\\bNaN\\b", "Exact\\b", "\\bRuntimeException\\b", "\\bThrowable\\b", "\\bException\\b",
            "NullPointer", "IndexOutOfBounds", "ArithmeticException", "ClassCast", "NegativeArraySize", "getMessage",
            "Math\\.(?!max\\(|min\\(|floorMod\\()", "hashCode", "toString", "System\\.(?!arraycopy)", "\" *\\+", "\\+ *\"",
            "\\bprotected\\b"};
        for (String word : none) {
            Matcher m = Pattern.compile(word).matcher(code);
            Cells.due("source has " + word, m.find(), false);
        }
        Cells.due("source is ASCII", code.chars().allMatch(c -> c < 128), true);
        Matcher caught = Pattern.compile("catch \\((\\w+)").matcher(code);
        while (caught.find()) {
            Cells.due("catches " + caught.group(1), caught.group(1).equals("IllegalStateException"), true);
        }
    }

    private static void face() {
        Cells.due("public final", Modifier.isPublic(MillCell.class.getModifiers()) && Modifier.isFinal(MillCell.class.getModifiers()),
            true);
        Set<String> seen = new TreeSet<>();
        for (Method m : MillCell.class.getDeclaredMethods()) {
            if (Modifier.isPublic(m.getModifiers())) {
                seen.add(m.getName());
            } else {
                Cells.due("private " + m.getName(), Modifier.isPrivate(m.getModifiers()) && !FACE.contains(m.getName()), true);
            }
        }
        Cells.due("the face", seen.equals(new TreeSet<>(FACE)), true);
        for (Field f : MillCell.class.getDeclaredFields()) {
            boolean open = f.getName().equals("NONE");
            Cells.due("field " + f.getName(), open ? Modifier.isPublic(f.getModifiers()) : Modifier.isPrivate(f.getModifiers()), true);
        }
        for (Class<?> c : MillCell.class.getDeclaredClasses()) {
            Cells.due(c.getName() + " is private and static",
                Modifier.isPrivate(c.getModifiers()) && Modifier.isStatic(c.getModifiers()), true);
            for (Method m : c.getDeclaredMethods()) {
                Cells.due(c.getName() + "." + m.getName(), FACE.contains(m.getName()), false);
            }
        }
    }

    private static int ownFields(Class<?> c) {
        int many = 0;
        for (Member f : c.getDeclaredFields()) {
            many += Modifier.isStatic(f.getModifiers()) ? 0 : 1;
        }
        return many;
    }

    private static void sizes(String code) {
        Class<?>[] inside = MillCell.class.getDeclaredClasses();
        Cells.due("classes", inside.length + 1 <= 12, true);
        for (Class<?> c : inside) {
            Cells.due("fields of " + c.getName(), ownFields(c) <= 20, true);
            for (Method m : c.getDeclaredMethods()) {
                Cells.due("parameters of " + m.getName(), m.getParameterCount() <= 7, true);
            }
            for (Constructor<?> k : c.getDeclaredConstructors()) {
                Cells.due("parameters of " + c.getName(), k.getParameterCount() <= 7, true);
            }
        }
        String[] lines = code.split("\n", -1);
        int start = -1;
        String indent = "";
        for (int n = 0; n < lines.length; n++) {
            Matcher m = Pattern.compile("( {4}| {8})[\\w\\[\\] ]+\\(.*\\{\\s*").matcher(lines[n]);
            if (m.matches()) {
                start = n;
                indent = m.group(1);
            } else if (start >= 0 && lines[n].equals(indent + "}")) {
                Cells.due("lines of " + lines[start].trim(), n - start + 1 <= 60, true);
                start = -1;
            }
        }
    }
}
