import java.io.IOException;
import java.lang.reflect.Constructor;
import java.lang.reflect.Field;
import java.lang.reflect.Method;
import java.lang.reflect.Modifier;
import java.nio.file.Files;
import java.nio.file.Path;
import java.util.List;
import java.util.Set;
import java.util.TreeSet;
import java.util.regex.Matcher;
import java.util.regex.Pattern;

/** The public face of the class, and the rules of the language that can be seen in its text. */
public final class FaceTest {
    private static final Check CHECK = new Check();

    public static void main(String[] args) throws IOException {
        methods();
        fields();
        classes();
        text();
        methodLengths();
        CHECK.end("FaceTest");
    }

    private static void methods() {
        Set<String> got = new TreeSet<>();
        Set<String> names = new TreeSet<>();
        for (Method method : CoreSyntax.class.getDeclaredMethods()) {
            if (!Modifier.isPrivate(method.getModifiers())) {
                got.add(method.toString().replace("CoreSyntax.", ""));
                names.add(method.getName());
            }
        }
        Set<String> want = new TreeSet<>();
        want.add("public int token(int,int,int)");
        want.add("public int clear()");
        want.add("public int parse()");
        want.add("public int fault(int)");
        want.add("public boolean retreat()");
        want.add("public int fixity(int)");
        want.add("public int tokens()");
        want.add("public int nodes()");
        want.add("public int node(int,int)");
        want.add("public int length(int)");
        want.add("public int item(int,int)");
        want.add("public int behind(int)");
        want.add("public boolean same(int,int)");
        want.add("public int fresh()");
        CHECK.due("methods", got, want);
        for (Class<?> inner : CoreSyntax.class.getDeclaredClasses()) {
            for (Method method : inner.getDeclaredMethods()) {
                CHECK.due(method + " bears the name of a public one", names.contains(method.getName()), false);
            }
        }
        Constructor<?>[] constructors = CoreSyntax.class.getDeclaredConstructors();
        CHECK.due("constructors", constructors.length, 1);
        CHECK.due("the constructor", constructors[0].toString(), "public CoreSyntax()");
        CHECK.due("the class is public and final", CoreSyntax.class.getModifiers(), Modifier.PUBLIC | Modifier.FINAL);
    }

    private static void fields() {
        Set<String> got = new TreeSet<>();
        for (Field field : CoreSyntax.class.getDeclaredFields()) {
            if (!Modifier.isPrivate(field.getModifiers())) {
                got.add(field.toString());
            }
            boolean changes = Modifier.isStatic(field.getModifiers()) && !Modifier.isFinal(field.getModifiers());
            CHECK.due(field + " is static and changes", changes, false);
        }
        CHECK.due("constants", got.toString(),
            "[public static final int CoreSyntax.FULL, public static final int CoreSyntax.NONE]");
        CHECK.due("NONE", CoreSyntax.NONE, -1);
        CHECK.due("FULL", CoreSyntax.FULL, -2);
    }

    private static void classes() {
        Class<?>[] inner = CoreSyntax.class.getDeclaredClasses();
        CHECK.due("twelve classes at most", inner.length < 12, true);
        for (Class<?> one : inner) {
            CHECK.due(one + " is static", Modifier.isStatic(one.getModifiers()), true);
            int fields = 0;
            for (Field field : one.getDeclaredFields()) {
                fields += Modifier.isStatic(field.getModifiers()) ? 0 : 1;
            }
            CHECK.due(one + " has twenty fields at most", fields <= 20, true);
            for (Method method : one.getDeclaredMethods()) {
                CHECK.due(method + " has seven parameters at most", method.getParameterCount() <= 7, true);
            }
        }
    }

    private static void text() throws IOException {
        String text = Files.readString(Path.of("src/main/java/CoreSyntax.java"));
        String bare = text.replaceAll("/\\*[\\s\\S]*?\\*/", " ").replaceAll("//[^\n]*", " ");
        String[] words = {"throw", "throws", "try", "catch", "finally", "synchronized", "assert", "instanceof", "package"};
        for (String word : words) {
            CHECK.due("the word " + word, Pattern.compile("\\b" + word + "\\b").matcher(bare).find(), false);
        }
        CHECK.due("lambdas", bare.contains("->"), false);
        CHECK.due("method references", bare.contains("::"), false);
        Matcher imports = Pattern.compile("import ([^;]*);").matcher(bare);
        while (imports.find()) {
            CHECK.due("an import", imports.group(1), "java.util.Arrays");
        }
        boolean plain = true;
        for (int k = 0; k < text.length(); k++) {
            plain &= text.charAt(k) < 128;
        }
        CHECK.due("plain characters alone", plain, true);
    }

    /** A method begins with a line that opens a brace behind ) and ends with a brace as far to the right. */
    private static void methodLengths() throws IOException {
        List<String> lines = Files.readAllLines(Path.of("src/main/java/CoreSyntax.java"));
        int methods = 0;
        for (int first = 0; first < lines.size(); first++) {
            Matcher head = Pattern.compile("( {4}| {8})[A-Za-z].*\\) \\{").matcher(lines.get(first));
            if (head.matches()) {
                int last = lines.subList(first, lines.size()).indexOf(head.group(1) + "}");
                CHECK.due("lines of " + lines.get(first).trim(), last > 0 && last <= 60, true);
                methods++;
            }
        }
        CHECK.due("methods that were looked at", methods > 100, true);
    }
}
