import java.util.ArrayList;
import java.util.Arrays;
import java.util.HashMap;
import java.util.List;
import java.util.Map;

/**
 * Turns readable text into tokens, and trees into readable text. Besides the language's own
 * spelling: ` before a name turns its kind (`* is alphanumeric, `x symbolic), `= is the name 6 as
 * a symbolic token and ``= as an alphanumeric one, ?40 is the alphanumeric name of that number,
 * $5 is the integer 5 without a number, 5#3 the integer 5 with the number 3, w5 c5 s5 behind a
 * quote ('w5, 'c5, 's5) are constants of the other kinds, %49 is the word of that number, and a
 * name with a dot is a long one. 'a alone is a type variable.
 */
final class Text {
    static final String[] WORDS = {
        null, "abstype", "and", "andalso", "as", "case", "datatype", "do", "else", "end", "exception",
        "fn", "fun", "handle", "if", "in", "infix", "infixr", "let", "local", "nonfix", "of", "op",
        "open", "orelse", "raise", "rec", "then", "type", "val", "with", "withtype", "while", "(",
        ")", "[", "]", "{", "}", ",", ":", ";", "...", "_", "|", "=", "=>", "->", "#"
    };
    static final String[] NAMES = {
        "true", "false", "nil", "::", "ref", "it", "=", "*", "+", "-", "/", "div", "mod", "^", "@",
        "<>", ">", ">=", "<", "<=", ":=", "o", "before"
    };
    private static final String SYMBOLS = "!%&$#+-/:<=>?@\\~^|*";

    /** By precedence: names to the left, then names to the right. */
    private static final String[][] OPERATORS = {
        {"before", ""}, {"", ""}, {"", ""}, {":= o", ""}, {"= <> > >= < <=", ""}, {"", ":: @"},
        {"+ - ^", ""}, {"* / div mod", ""}, {"", ""}, {"", ""}
    };

    private final Map<String, Integer> names = new HashMap<>();
    private final List<String> spelled = new ArrayList<>();
    private final Map<String, Integer> longs = new HashMap<>();

    Text() {
        for (String name : NAMES) {
            name(name);
        }
        for (char letter = 'a'; letter <= 'z'; letter++) {
            name(String.valueOf(letter));
        }
    }

    /** The fixity that a name of the document has at first. */
    static int firstFixity(int name) {
        for (int fixity = 0; fixity < 20; fixity++) {
            if (Arrays.asList(OPERATORS[fixity / 2][fixity % 2].split(" ")).contains(NAMES[name])) {
                return fixity;
            }
        }
        return -1;
    }

    int name(String text) {
        if (!names.containsKey(text)) {
            names.put(text, spelled.size());
            spelled.add(text);
        }
        return names.get(text);
    }

    private int longName(String text) {
        longs.putIfAbsent(text, longs.size() + 100);
        return longs.get(text);
    }

    int[][] tokens(String text) {
        List<int[]> all = new ArrayList<>();
        for (String piece : text.trim().split("\\s+")) {
            if (!piece.isEmpty()) {
                all.add(token(piece));
            }
        }
        return all.toArray(new int[0][]);
    }

    private int[] token(String piece) {
        int word = Arrays.asList(WORDS).indexOf(piece);
        char first = piece.charAt(0);
        String rest = piece.substring(1);
        if (word > 0) {
            return new int[] {1, word, -1};
        }
        if (piece.equals("`=")) {
            return new int[] {3, 6, -1};
        }
        if (piece.equals("``=")) {
            return new int[] {2, 6, -1};
        }
        if (first == '`') {
            int[] plain = token(rest);
            return new int[] {5 - plain[0], plain[1], -1};
        }
        if (piece.matches("\\?[0-9]+")) {
            return new int[] {2, Integer.parseInt(rest), -1};
        }
        if (piece.matches("[0-9]+#[0-9]+")) {
            int split = piece.indexOf('#');
            int number = Integer.parseInt(piece.substring(split + 1));
            return new int[] {6, Integer.parseInt(piece.substring(0, split)), number};
        }
        if (first == '%' && rest.matches("[0-9]+")) {
            return new int[] {1, Integer.parseInt(rest), -1};
        }
        if (first == '$' && rest.matches("[0-9]+")) {
            return new int[] {6, Integer.parseInt(rest), -1};
        }
        if (piece.matches("[0-9]+")) {
            return new int[] {6, Integer.parseInt(piece), Integer.parseInt(piece)};
        }
        if (piece.matches("'[wcs][0-9]+")) {
            return new int[] {7 + "wcs".indexOf(rest.charAt(0)), Integer.parseInt(rest.substring(1)), -1};
        }
        if (first == '\'') {
            return new int[] {4, name(rest), -1};
        }
        if (piece.length() > 1 && piece.indexOf('.') > 0) {
            return new int[] {5, longName(piece), -1};
        }
        return new int[] {SYMBOLS.indexOf(first) >= 0 ? 3 : 2, name(piece), -1};
    }

    /** Gives an object the tokens of a text. */
    void give(CoreSyntax reader, String text) {
        for (int[] token : tokens(text)) {
            reader.token(token[0], token[1], token[2]);
        }
    }

    /** The tree of a text, or its fault. */
    String read(CoreSyntax reader, String text, boolean places) {
        give(reader, text);
        if (reader.parse() == CoreSyntax.NONE) {
            return "fault " + reader.fault(0) + " at " + reader.fault(1);
        }
        return show(reader, 0, places);
    }

    private String spell(int name) {
        if (name >= 8192) {
            return "v" + (name - 8192);
        }
        return name >= 0 && name < spelled.size() ? spelled.get(name) : "?" + name;
    }

    private String spell(int name, int longName) {
        for (Map.Entry<String, Integer> entry : longs.entrySet()) {
            if (name == -1 && entry.getValue() == longName) {
                return entry.getKey();
            }
        }
        return longName == -1 ? spell(name) : "both " + name + " " + longName;
    }

    private String label(int label) {
        return label > 0 ? String.valueOf(label) : spell(-1 - label);
    }

    private static String choice(int which, String zero, String one) {
        return which == 0 ? zero : which == 1 ? one : zero + "?" + which;
    }

    /** A node and all in it; the three fields are told by what the document says of the kind. */
    String show(CoreSyntax x, int i, boolean places) {
        if (i == -1) {
            return "-";
        }
        int kind = x.node(i, 0);
        int a = x.node(i, 1);
        int b = x.node(i, 2);
        int c = x.node(i, 3);
        String where = places ? "@" + x.node(i, 4) : "";
        switch (kind) {
            case 1: return list(x, i, places);
            case 10: return a + where;
            case 11: return spell(a, b) + where;
            case 12: return "rec" + where + kids(x, places, a);
            case 13: return label(a) + "=" + where + kids(x, places, b);
            case 14: return "let" + where + kids(x, places, a, b);
            case 15: return "app" + where + kids(x, places, a, b);
            case 16: return "typed" + where + kids(x, places, a, b);
            case 17: return "handle" + where + kids(x, places, a, b);
            case 18: return "raise" + where + kids(x, places, a);
            case 19: return "fn" + where + kids(x, places, a);
            case 20: return "rule" + where + kids(x, places, a, b);
            case 30: return "_" + where;
            case 31: return "p" + a + where;
            case 32: return "." + spell(a, b) + where;
            case 33: return choice(b, "prec", "prec...") + where + kids(x, places, a);
            case 34: return "." + label(a) + "=" + where + kids(x, places, b);
            case 35: return "con" + where + "(" + spell(a, b) + " " + show(x, c, places) + ")";
            case 36: return "ptyped" + where + kids(x, places, a, b);
            case 37: return "as" + where + "(" + spell(a) + " " + show(x, b, places) + " "
                + show(x, c, places) + ")";
            case 50: return "'" + spell(a) + where;
            case 51: return "trec" + where + kids(x, places, a);
            case 52: return label(a) + ":" + where + kids(x, places, b);
            case 53: return "t" + where + "(" + show(x, a, places) + " " + spell(b, c) + ")";
            case 54: return "arrow" + where + kids(x, places, a, b);
            case 70: return "val" + where + kids(x, places, a, b);
            case 71: return choice(c, "bind", "bindrec") + where + kids(x, places, a, b);
            case 72: return "type" + where + kids(x, places, a);
            case 73: return "tb" + where + "(" + show(x, a, places) + " " + spell(b) + " "
                + show(x, c, places) + ")";
            case 74: return "data" + where + kids(x, places, a, b);
            case 75: return "db" + where + "(" + show(x, a, places) + " " + spell(b) + " "
                + show(x, c, places) + ")";
            case 76: return "cb" + where + "(" + spell(a) + " " + show(x, b, places) + ")";
            case 77: return "repl" + where + "(" + spell(a) + " " + spell(b, c) + ")";
            case 78: return "abs" + where + kids(x, places, a, b, c);
            case 79: return "exc" + where + kids(x, places, a);
            case 80: return "eb" + where + "(" + spell(a) + " " + show(x, b, places) + ")";
            case 81: return "ec" + where + "(" + spell(a) + " " + spell(b, c) + ")";
            case 82: return "local" + where + kids(x, places, a, b);
            case 83: return "open" + where + kids(x, places, a);
            case 84: return "decs" + where + kids(x, places, a);
            default: return "unknown" + kind;
        }
    }

    private String kids(CoreSyntax x, boolean places, int... nodes) {
        StringBuilder all = new StringBuilder("(");
        for (int k = 0; k < nodes.length; k++) {
            all.append(k == 0 ? "" : " ").append(show(x, nodes[k], places));
        }
        return all.append(")").toString();
    }

    private String list(CoreSyntax x, int i, boolean places) {
        StringBuilder all = new StringBuilder("[");
        int cell = i;
        while (cell != -1) {
            int head = x.node(cell, 1);
            boolean strayed = x.node(cell, 0) != 1 || x.node(cell, 4) != x.node(head, 4);
            all.append(cell == i ? "" : " ").append(strayed ? "!" : "").append(show(x, head, places));
            cell = x.node(cell, 2);
        }
        return all.append("]").toString();
    }
}
