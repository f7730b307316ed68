import java.lang.reflect.Executable;
import java.lang.reflect.Field;
import java.lang.reflect.Modifier;
import java.nio.file.Files;
import java.nio.file.Path;
import java.util.List;
import java.util.Set;

/** The rules of LANGUAGE.md that can be seen in the text or in the compiled class; FaceTest has rule 1. */
public final class LanguageTest {
    private static final Path PROGRAM = Path.of("src", "main", "java", "TorqueRows.java");
    /** What the rules leave no place for: rules 2, 4, 6 and the package and library of the first lines. */
    private static final String[] FORBIDDEN = {
        "package", "import", "java\\.", "->", "::", "\\w+Exact", "finally", "synchronized", "assert", "volatile",
        "native", "transient", "equals", "hashCode", "toString", "getMessage", "System", "Thread", "Object",
        "try", "catch", "static \\{", "protected"
    };
    private static final Set<Class<?>> NUMBERS = Set.of(int.class, long.class, boolean.class);
    private static final int LINES_OF_A_METHOD = 60;
    private static final int PARAMETERS = 7;
    private static final int CLASSES = 12;
    private static final int FIELDS = 20;

    public static void main(String[] args) throws Exception {
        List<String> lines = Files.readAllLines(PROGRAM);
        looksAtWords(lines);
        looksAtLengths(lines);
        looksAtClass(TorqueRows.class);
        Class<?>[] inside = TorqueRows.class.getDeclaredClasses();
        Due.isTrue("at most " + CLASSES + " classes", inside.length + 1 <= CLASSES);
        for (Class<?> one : inside) {
            looksAtClass(one);
        }
        Due.end();
    }

    private static void looksAtWords(List<String> lines) {
        for (int n = 0; n < lines.size(); n++) {
            String code = withoutTexts(lines.get(n));
            for (String word : FORBIDDEN) {
                String whole = Character.isLetter(word.charAt(0)) ? "\\b" + word : word;
                String end = Character.isLetter(word.charAt(word.length() - 1)) ? "\\b" : "";
                Due.isTrue("line " + (n + 1) + " has " + word, !code.matches(".*" + whole + end + ".*"));
            }
        }
    }

    /** Comments and written texts may say any word. */
    private static String withoutTexts(String line) {
        String code = line.replaceAll("\"[^\"]*\"", "\"\"").replaceAll("//.*", "").replaceAll("/\\*.*\\*/", "");
        return code.strip().startsWith("*") || code.strip().startsWith("/*") ? "" : code;
    }

    private static void looksAtLengths(List<String> lines) {
        int methods = 0;
        for (int n = 0; n < lines.size(); n++) {
            if (lines.get(n).matches(" +(public|private)[^=;]*\\(.*\\{")) {
                methods++;
                int length = endOf(lines, n) - n + 1;
                Due.isTrue("line " + (n + 1) + " begins a short method", length <= LINES_OF_A_METHOD);
            }
        }
        Due.isTrue("methods were found", methods > 14);
    }

    /** A method's last line is the first brace that stands under its first line. */
    private static int endOf(List<String> lines, int begin) {
        String first = lines.get(begin);
        String last = " ".repeat(first.length() - first.stripLeading().length()) + "}";
        int n = begin;
        while (n < lines.size() && !lines.get(n).equals(last)) {
            n++;
        }
        return n;
    }

    private static void looksAtClass(Class<?> one) {
        int fields = 0;
        for (Field field : one.getDeclaredFields()) {
            if (Modifier.isStatic(field.getModifiers())) {
                Due.isTrue("final " + field, Modifier.isFinal(field.getModifiers()));
                Due.isTrue("a number " + field, NUMBERS.contains(field.getType()));
            } else {
                fields++;
            }
        }
        Due.isTrue(one + " has at most " + FIELDS + " fields", fields <= FIELDS);
        for (Executable method : one.getDeclaredMethods()) {
            Due.isTrue("parameters of " + method, method.getParameterCount() <= PARAMETERS);
        }
    }
}
