import java.lang.reflect.Constructor;
import java.lang.reflect.Field;
import java.lang.reflect.Method;
import java.lang.reflect.Modifier;
import java.util.Arrays;
import java.util.Set;
import java.util.TreeSet;

/** The public face is the document's, and nothing else is public, protected or package-visible. */
final class FaceTest {
    private static final String I = "IndexOutOfBoundsException";
    private static final String A = "IllegalArgumentException";
    private static final String S = "IllegalStateException";

    public static void main(String[] args) {
        Set<String> want = new TreeSet<>(Arrays.asList(
            "int keeper() " + S, "int die(int) " + I + " " + S, "int heir(int,int) " + I + " " + S,
            "int quarrel(int,int) " + I + " " + S, "int seal(int,int,int) " + A + " " + S, "int renew() " + S,
            "int forge(int,int) " + A + " " + S, "int pass(int) " + A + " " + S, "int open(int) " + A,
            "int append(int) " + A + " " + S, "int clearBuffer()", "int firstError()", "int live() " + A,
            "int undo() " + S, "int keeperOf(int,int) " + I + " " + A, "int share(int,int) " + A,
            "int count(int) " + A, "int why(int) " + A, "int told(int) " + A, "int possible(int) " + A,
            "int smallest(int) " + A, "int groups()", "int needed()", "int peace(boolean)",
            "double firstShare()", "long digest()"));
        Set<String> got = new TreeSet<>();
        Set<String> hidden = new TreeSet<>();
        for (Method method : CapsuleKeepers.class.getDeclaredMethods()) {
            if (Modifier.isPrivate(method.getModifiers())) {
                hidden.add(method.getName());
            } else {
                got.add(told(method));
                Checks.due(method.getName() + " is public alone", method.getModifiers(), Modifier.PUBLIC);
            }
        }
        dueSame(got, want);
        for (String line : want) {
            String name = line.substring(line.indexOf(' ') + 1, line.indexOf('('));
            Checks.due("a private method named " + name, hidden.contains(name) ? 1 : 0, 0);
        }
        fields();
        Constructor<?>[] constructors = CapsuleKeepers.class.getDeclaredConstructors();
        Checks.due("constructors", constructors.length, 1);
        Checks.due("the constructor is public", constructors[0].getModifiers(), Modifier.PUBLIC);
        Checks.due("its parameters", constructors[0].getParameterCount(), 0);
        Checks.due("the class", CapsuleKeepers.class.getModifiers(), Modifier.PUBLIC | Modifier.FINAL);
        Checks.finish("FaceTest");
    }

    private static void dueSame(Set<String> got, Set<String> want) {
        for (String line : want) {
            Checks.due("there is " + line, got.contains(line) ? 1 : 0, 1);
        }
        for (String line : got) {
            Checks.due("the document has " + line, want.contains(line) ? 1 : 0, 1);
        }
    }

    private static String told(Method method) {
        StringBuilder line = new StringBuilder();
        line.append(method.getReturnType().getSimpleName()).append(' ').append(method.getName()).append('(');
        String comma = "";
        for (Class<?> type : method.getParameterTypes()) {
            line.append(comma).append(type.getSimpleName());
            comma = ",";
        }
        line.append(')');
        for (Class<?> type : method.getExceptionTypes()) {
            line.append(' ').append(type.getSimpleName());
        }
        return line.toString();
    }

    private static void fields() {
        for (Field field : CapsuleKeepers.class.getDeclaredFields()) {
            boolean constant = field.getName().equals("NONE");
            int bits = field.getModifiers();
            Checks.due(field.getName() + " is private", Modifier.isPrivate(bits) ? 1 : 0, constant ? 0 : 1);
            if (constant) {
                Checks.due("NONE", bits, Modifier.PUBLIC | Modifier.STATIC | Modifier.FINAL);
                Checks.due("NONE is an int", field.getType() == int.class ? 1 : 0, 1);
            }
        }
        for (Class<?> inside : CapsuleKeepers.class.getDeclaredClasses()) {
            int bits = inside.getModifiers();
            Checks.due(inside.getName() + " is static", Modifier.isStatic(bits) ? 1 : 0, 1);
            Checks.due(inside.getName() + " is hidden", bits & (Modifier.PUBLIC | Modifier.PROTECTED), 0);
        }
    }
}
