import java.io.IOException;
import java.nio.charset.StandardCharsets;
import java.nio.file.Files;
import java.nio.file.Path;
import java.util.Arrays;
import java.util.HashSet;
import java.util.Set;
import java.util.regex.Matcher;
import java.util.regex.Pattern;

/** The rules of LANGUAGE.md that can be seen in the words of the source, texts and comments left out. */
final class RulesTest {
    private static final Path SOURCE = Path.of("src/main/java/CapsuleKeepers.java");

    public static void main(String[] args) throws IOException {
        String whole = Files.readString(SOURCE, StandardCharsets.UTF_8);
        String code = whole.replaceAll("(?s)/\\*.*?\\*/", " ").replaceAll("//[^\n]*", " ")
            .replaceAll("\"[^\"\n]*\"", "\"\"").replaceAll("'[^'\n]'", "' '");
        for (int i = 0; i < whole.length(); i++) {
            if (whole.charAt(i) > 126) {
                Checks.due("a sign that is not ASCII at " + i, whole.charAt(i), 0);
            }
        }
        forbidden(code);
        library(code);
        loops(code);
        statics(code);
        lengths(whole);
        Checks.finish("RulesTest");
    }

    private static void absent(String code, String pattern) {
        Matcher m = Pattern.compile(pattern).matcher(code);
        Checks.due("the source has " + pattern, m.find() ? 1 : 0, 0);
    }

    private static void forbidden(String code) {
        for (String word : new String[] {"import", "package", "synchronized", "assert", "finally", "native",
            "volatile", "transient", "strictfp", "record", "var", "yield", "protected", "equals", "hashCode",
            "toString", "clone", "getClass", "System", "Object", "Double", "Float", "catch", "try", "null"}) {
            absent(code, "\\b" + word + "\\b");
        }
        absent(code, "->");
        absent(code, "::");
        absent(code, "Exact\\b");
        absent(code, "@");
        absent(code, "static\\s*\\{");
        absent(code, "\"\"\\s*\\+|\\+\\s*\"\"");
    }

    private static void library(String code) {
        Set<String> known = new HashSet<>(Arrays.asList("Integer.bitCount", "Math.floorMod"));
        Matcher m = Pattern.compile("\\b([A-Z][a-z]+[A-Za-z]*)\\.(\\w+)").matcher(code);
        while (m.find()) {
            Checks.due("the library's " + m.group(), known.contains(m.group()) ? 1 : 0, 1);
        }
        Set<String> made = new HashSet<>(Arrays.asList("int", "Place", "Curves", "Survey", "DaysText",
            "IllegalStateException", "IllegalArgumentException", "IndexOutOfBoundsException"));
        m = Pattern.compile("\\bnew (\\w+)").matcher(code);
        while (m.find()) {
            Checks.due("a new " + m.group(1), made.contains(m.group(1)) ? 1 : 0, 1);
        }
    }

    /** What a call makes would be counted: only constructors make rows and objects. */
    private static void loops(String code) {
        absent(code, "\\bwhile\\b");
        absent(code, "for \\(;;");
        Matcher m = Pattern.compile("\\breturn new\\b").matcher(code);
        Checks.due("a method makes an object", m.find() ? 1 : 0, 0);
    }

    private static void statics(String code) {
        Matcher m = Pattern.compile("(?m)^.*\\bstatic\\b.*[;=].*$").matcher(code);
        while (m.find()) {
            Checks.due("final: " + m.group().trim(), m.group().contains(" static final ") ? 1 : 0, 1);
        }
    }

    private static void lengths(String whole) {
        String[] lines = whole.split("\n");
        for (int begin = 0; begin < lines.length; begin++) {
            Matcher m = Pattern.compile("^((?:    ){1,2})\\w[^=]*\\(.*\\{$").matcher(lines[begin]);
            if (m.find()) {
                int end = begin;
                while (!lines[end].equals(m.group(1) + "}")) {
                    end++;
                }
                Checks.due("short: " + lines[begin].trim(), end - begin <= 60 ? 1 : 0, 1);
            }
        }
    }
}
