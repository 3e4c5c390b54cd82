import java.io.IOException;
import java.nio.charset.StandardCharsets;
import java.nio.file.Files;
import java.nio.file.Path;
import java.util.Arrays;
import java.util.HashSet;
import java.util.Set;
import java.util.regex.Matcher;
import java.util.regex.Pattern;

/** The rules of LANGUAGE.md that can be seen in the words of the source, texts and comments left out. */
final class RulesTest {
    private static final Path SOURCE = Path.of("src/main/java/CapsuleKeepers.java");
    private static final Set<String> THROWN = Set.of("IllegalStateException", "IllegalArgumentException",
        "IndexOutOfBoundsException", "ArithmeticException", "UnsupportedOperationException",
        "NoSuchElementException", "RuntimeException");

    public static void main(String[] args) throws IOException {
        String whole = Files.readString(SOURCE, StandardCharsets.UTF_8);
        String code = whole.replaceAll("(?s)/\\*.*?\\*/", " ").replaceAll("//[^\n]*", " ")
            .replaceAll("\"[^\"\n]*\"", "\"\"").replaceAll("'[^'\n]'", "' '");
        for (int i = 0; i < whole.length(); i++) {
            if (whole.charAt(i) > 126) {
                Checks.due("a sign that is not ASCII at " + i, whole.charAt(i), 0);
            }
        }
        forbidden(code);
        exceptions(code);
        library(code);
        statics(code);
        sizes(whole, code);
        Checks.finish("RulesTest");
    }

    private static void absent(String code, String pattern) {
        Matcher m = Pattern.compile(pattern).matcher(code);
        Checks.due("the source has " + pattern, m.find() ? 1 : 0, 0);
    }

    private static void forbidden(String code) {
        for (String word : new String[] {"package", "synchronized", "assert", "finally", "native", "volatile",
            "protected", "hashCode", "getClass", "getMessage", "Object", "Double", "Float", "Random", "Thread"}) {
            absent(code, "\\b" + word + "\\b");
        }
        absent(code, "(?m)^import (?!java\\.util\\.(ArrayList|List|Arrays|Iterator|NoSuchElementException);)");
        absent(code, "(?m)^(?!\\s*(case|default)\\b).*->");
        absent(code, "::");
        absent(code, "Exact\\b");
        absent(code, "static\\s*\\{");
        absent(code, "\"\"\\s*\\+|\\+\\s*\"\"");
        absent(code, "\\bwhile\\s*\\(\\s*true|\\bfor\\s*\\([^;]*;\\s*;");
    }

    private static void exceptions(String code) {
        Matcher m = Pattern.compile("\\bthrow\\s+new\\s+(\\w+)\\(([^;]*)\\);").matcher(code);
        while (m.find()) {
            Checks.due("thrown: " + m.group(1), THROWN.contains(m.group(1)) ? 1 : 0, 1);
            boolean written = m.group(2).isEmpty() || m.group(2).equals("\"\"");
            Checks.due("a written text alone: " + m.group(), written ? 1 : 0, 1);
        }
        absent(code, "\\bthrow\\b(?!\\s+new\\b)");
        m = Pattern.compile("\\bcatch\\s*\\((?:final\\s+)?([\\w\\s|]+?)\\s+\\w+\\)").matcher(code);
        while (m.find()) {
            for (String caught : m.group(1).split("\\s*\\|\\s*")) {
                Checks.due("caught: " + caught, THROWN.contains(caught) ? 1 : 0, 1);
            }
        }
    }

    private static void library(String code) {
        Set<String> own = new HashSet<>(Arrays.asList("StringBuilder", "String", "ArrayList", "int", "long", "short",
            "byte", "char", "boolean", "double", "float"));
        own.addAll(THROWN);
        Matcher m = Pattern.compile("\\b(?:class|record|enum|interface)\\s+(\\w+)").matcher(code);
        int classes = 0;
        while (m.find()) {
            own.add(m.group(1));
            classes++;
        }
        Checks.due("at most some twelve classes", classes <= 13 ? 1 : 0, 1);
        m = Pattern.compile("\\bnew\\s+(\\w+)").matcher(code);
        while (m.find()) {
            Checks.due("a new " + m.group(1), own.contains(m.group(1)) ? 1 : 0, 1);
        }
        m = Pattern.compile("\\b(System|Arrays|List|Objects|Collections|Character|Boolean)\\.(\\w+)").matcher(code);
        while (m.find()) {
            boolean listed = Set.of("System.arraycopy", "Arrays.copyOf", "Arrays.copyOfRange", "Arrays.fill", "List.of")
                .contains(m.group());
            Checks.due("the library's " + m.group(), listed ? 1 : 0, 1);
        }
    }

    private static void statics(String code) {
        Matcher m = Pattern.compile("(?m)^.*\\bstatic\\b.*[;=].*$").matcher(code);
        while (m.find()) {
            Checks.due("final: " + m.group().trim(), m.group().contains(" static final ") ? 1 : 0, 1);
        }
    }

    private static void sizes(String whole, String code) {
        Matcher m = Pattern.compile("(?m)^ {4,8}[\\w<][^=;\\n]*\\(([^()]*)\\)[^;\\n]*\\{$").matcher(code);
        while (m.find()) {
            Checks.due("parameters of " + m.group().trim(), m.group(1).split(",").length <= 7 ? 1 : 0, 1);
        }
        String[] lines = whole.split("\n");
        for (int begin = 0; begin < lines.length; begin++) {
            m = Pattern.compile("^((?:    ){1,2})\\w[^=]*\\(.*\\{$").matcher(lines[begin]);
            if (m.find()) {
                int end = begin;
                while (end < lines.length && !lines[end].equals(m.group(1) + "}")) {
                    end++;
                }
                Checks.due("short: " + lines[begin].trim(), end - begin <= 65 ? 1 : 0, 1);
            }
        }
    }
}
