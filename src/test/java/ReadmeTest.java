import java.io.IOException;
import java.lang.reflect.Method;
import java.lang.reflect.Modifier;
import java.nio.file.Files;
import java.nio.file.Path;
import java.util.List;
import java.util.regex.Matcher;
import java.util.regex.Pattern;
import java.util.stream.Collectors;
import java.util.stream.Stream;

/** README.md: its examples stand here line by line and answer what it says, and it leaves nothing out. */
public final class ReadmeTest {
    private static final Check CHECK = new Check();

    public static void main(String[] args) throws IOException {
        examples();
        String readme = Files.readString(Path.of("README.md"));
        examplesAreTheseHere(readme);
        answersAreTheseHere(readme);
        allMethodsAreTold(readme);
        allTestsAreTold(readme);
        CHECK.end("ReadmeTest");
    }

    private static void examples() {
        CoreSyntax reader = new CoreSyntax();
        reader.token(1, 29, -1);
        reader.token(2, 40, -1);
        reader.token(1, 45, -1);
        reader.token(6, 300, 5);
        CHECK.due("tokens()", reader.tokens(), 4);
        int nodes = reader.parse();
        CHECK.due("nodes", nodes, 7);
        tree(reader);
        fault(reader);
        fixities(reader);
    }

    private static void tree(CoreSyntax reader) {
        int decs = reader.node(0, 1);
        int many = reader.length(decs);
        int val = reader.item(decs, 0);
        int kind = reader.node(val, 0);
        int bind = reader.item(reader.node(val, 2), 0);
        int name = reader.node(reader.node(bind, 1), 1);
        int constant = reader.node(reader.node(bind, 2), 1);
        int place = reader.node(reader.node(bind, 2), 4);
        int next = reader.behind(val);
        CHECK.due("many", many, 1);
        CHECK.due("kind", kind, 70);
        CHECK.due("name", name, 40);
        CHECK.due("constant", constant, 300);
        CHECK.due("place", place, 3);
        CHECK.due("next", next, 7);
        CHECK.due("an empty list", reader.node(val, 1), CoreSyntax.NONE);
        CHECK.due("length(-1)", reader.length(-1), 0);
    }

    private static void fault(CoreSyntax reader) {
        reader.token(1, 29, -1);
        reader.token(1, 45, -1);
        int none = reader.parse();
        int fault = reader.fault(0);
        int where = reader.fault(1);
        CHECK.due("none", none, CoreSyntax.NONE);
        CHECK.due("fault", fault, 1);
        CHECK.due("where", where, 1);
    }

    private static void fixities(CoreSyntax reader) {
        reader.token(1, 17, -1);
        reader.token(6, 301, 5);
        reader.token(3, 50, -1);
        int left = reader.parse();
        int fixity = reader.fixity(50);
        boolean back = reader.retreat();
        int before = reader.fixity(50);
        boolean again = reader.retreat();
        CHECK.due("left", left, 1);
        CHECK.due("fixity", fixity, 11);
        CHECK.due("back", back, true);
        CHECK.due("before", before, CoreSyntax.NONE);
        CHECK.due("again", again, false);
    }

    private static List<String> exampleLines(String readme) {
        String[] blocks = readme.split("```");
        return Stream.of(blocks)
            .filter(block -> block.startsWith("java\n"))
            .flatMap(block -> block.lines().skip(1))
            .collect(Collectors.toList());
    }

    private static String withoutComment(String line) {
        int comment = line.indexOf("//");
        return (comment < 0 ? line : line.substring(0, comment)).trim();
    }

    private static void examplesAreTheseHere(String readme) throws IOException {
        List<String> here = Files.readAllLines(Path.of("src/test/java/ReadmeTest.java")).stream()
            .map(String::trim).collect(Collectors.toList());
        List<String> lines = exampleLines(readme);
        CHECK.due("lines of examples", lines.size() > 20, true);
        int at = 0;
        for (String line : lines) {
            int found = here.subList(at, here.size()).indexOf(withoutComment(line));
            CHECK.due("in order, and tried here: " + line, found >= 0, true);
            at = found < 0 ? at : at + found + 1;
        }
    }

    /** A number, NONE, true or false at the begin of a comment is what the line's variable is due to be. */
    private static void answersAreTheseHere(String readme) throws IOException {
        String here = Files.readString(Path.of("src/test/java/ReadmeTest.java"));
        Pattern answered = Pattern.compile("(?:int|boolean) (\\w+) = .*// (\\d+|NONE|true|false)\\b.*");
        int answers = 0;
        for (String line : exampleLines(readme)) {
            Matcher told = answered.matcher(line);
            if (told.matches()) {
                String value = told.group(2).replace("NONE", "CoreSyntax.NONE");
                String check = "CHECK.due(\"" + told.group(1) + "\", " + told.group(1) + ", " + value + ");";
                CHECK.due("checked here: " + line, here.contains(check), true);
                answers++;
            }
        }
        CHECK.due("answers in examples", answers > 10, true);
    }

    private static void allMethodsAreTold(String readme) {
        for (Method method : CoreSyntax.class.getDeclaredMethods()) {
            if (Modifier.isPublic(method.getModifiers())) {
                CHECK.due("told: " + method.getName(), readme.contains("`" + method.getName() + "("), true);
            }
        }
    }

    private static void allTestsAreTold(String readme) throws IOException {
        try (Stream<Path> files = Files.list(Path.of("src/test/java"))) {
            for (Path file : files.collect(Collectors.toList())) {
                String name = file.getFileName().toString().replace(".java", "");
                if (name.endsWith("Test")) {
                    CHECK.due("told: " + name, readme.contains("`" + name + "`"), true);
                }
            }
        }
    }
}
