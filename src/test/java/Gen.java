import java.util.ArrayList;
import java.util.Arrays;
import java.util.List;
import java.util.Random;

/**
 * Makes random programs together with the trees that are due for them. Now and then it puts a
 * fault into one; the first one is the one that is due.
 */
final class Gen {
    /** A node that is due: its fields are numbers, nodes, lists of nodes or fresh variables. */
    static final class Node {
        final int kind;
        final Object a;
        final Object b;
        final Object c;
        final int place;

        Node(int place, int kind, Object a, Object b, Object c) {
            this.kind = kind;
            this.a = a;
            this.b = b;
            this.c = c;
            this.place = place;
        }
    }

    static final class Variable {
        int number = -1;
    }

    static final int ABSTYPE = 1, AND = 2, ANDALSO = 3, AS = 4, CASE = 5, DATATYPE = 6, DO = 7, ELSE = 8,
        END = 9, EXCEPTION = 10, FN = 11, FUN = 12, HANDLE = 13, IF = 14, IN = 15, INFIX = 16, INFIXR = 17,
        LET = 18, LOCAL = 19, NONFIX = 20, OF = 21, OP = 22, OPEN = 23, ORELSE = 24, RAISE = 25, REC = 26,
        THEN = 27, TYPE = 28, VAL = 29, WITH = 30, WITHTYPE = 31, WHILE = 32, L = 33, R = 34, LS = 35,
        RS = 36, LB = 37, RB = 38, COMMA = 39, COLON = 40, SEMI = 41, DOTS = 42, WILD = 43, BAR = 44,
        EQ = 45, RULE = 46, ARROW = 47, HASH = 48;

    final List<int[]> tokens = new ArrayList<>();
    int faultKind = 0;
    int faultPlace = -1;
    int depth = 0;
    int deepest = 0;
    int[] fix = new int[8192];
    /** The changes of fixity in the declarations that are being made, for what outlasts a local. */
    private List<int[]> changes = new ArrayList<>();
    private final Random random;
    private final int oneFaultIn;
    private final boolean deep;

    Gen(long seed, int oneFaultIn, boolean deep) {
        random = new Random(seed);
        this.oneFaultIn = oneFaultIn;
        this.deep = deep;
        Arrays.fill(fix, -1);
        int[] first = {-1, -1, -1, 11, -1, -1, 8, 14, 12, 12, 14, 14, 14, 12, 11, 8, 8, 8, 8, 8, 6, 6, 0};
        System.arraycopy(first, 0, fix, 0, first.length);
    }

    // ---- small tools

    private int pick(int n) {
        return random.nextInt(n);
    }

    private boolean once(int n) {
        return random.nextInt(n) == 0;
    }

    private boolean sin() {
        return oneFaultIn > 0 && once(oneFaultIn);
    }

    private void fault(int kind) {
        if (faultKind == 0) {
            faultKind = kind;
            faultPlace = at();
        }
    }

    private int at() {
        return tokens.size();
    }

    private void put(int kind, int value, int number) {
        tokens.add(new int[] {kind, value, number});
    }

    private void word(int w) {
        put(1, w, -1);
    }

    private void open(int w) {
        if (depth >= 32) {
            fault(5);
        }
        depth++;
        deepest = Math.max(depth, deepest);
        word(w);
    }

    private void close(int w) {
        word(w);
        depth--;
    }

    private static Node n(int place, int kind, Object a, Object b, Object c) {
        return new Node(place, kind, a, b, c);
    }

    private static Node n(int place, int kind, Object a, Object b) {
        return n(place, kind, a, b, -1);
    }

    private static Node n(int place, int kind, Object a) {
        return n(place, kind, a, -1, -1);
    }

    private static List<Node> list(Node... nodes) {
        return new ArrayList<>(Arrays.asList(nodes));
    }

    /** What is left for a part; nothing when the text is long already. */
    private int less(int size) {
        if (at() > 700) {
            return 0;
        }
        return deep ? size - 1 : size / 2 + pick(Math.max(1, size / 2)) - 1;
    }

    // ---- names

    private int anyName() {
        return once(3) ? pick(23) : 23 + pick(12);
    }

    private void putName(int name) {
        put(2 + pick(2), name, -1);
    }

    private int plainName() {
        int name = anyName();
        for (int turn = 0; turn < 1000 && fix[name] >= 0; turn++) {
            name = anyName();
        }
        return fix[name] >= 0 ? 5000 : name;
    }

    private int operatorName() {
        int name = anyName();
        for (int turn = 0; turn < 1000 && fix[name] < 0; turn++) {
            name = anyName();
        }
        return fix[name] < 0 ? -1 : name;
    }

    /** Puts [op] NAME for a name, with op where it must stand. */
    private void putId(int name) {
        if (fix[name] >= 0 || once(6)) {
            word(OP);
        }
        putName(name);
    }

    private Node id(int kind) {
        int place = at();
        if (once(8)) {
            int name = pick(32768);
            put(5, name, -1);
            return n(place, kind, -1, name);
        }
        if (kind == 11 && once(12)) {
            word(OP);
            word(EQ);
            return n(place, kind, 6);
        }
        if (kind == 32 && sin()) {
            word(OP);
            fault(6);
            word(EQ);
            return n(place, kind, 6);
        }
        int name = once(4) ? anyName() : plainName();
        putId(name);
        return n(place, kind, name);
    }

    private int label(List<Node> fields) {
        if (!fields.isEmpty() && sin()) {
            int label = (Integer) fields.get(pick(fields.size())).a;
            fault(2);
            putLabel(label);
            return label;
        }
        int label = freeLabel(fields);
        putLabel(label);
        return label;
    }

    private int freeLabel(List<Node> fields) {
        int label = newLabel();
        for (int turn = 0; turn < 1000; turn++) {
            boolean had = false;
            for (Node field : fields) {
                had |= (Integer) field.a == label;
            }
            if (!had) {
                return label;
            }
            label = newLabel();
        }
        return label;
    }

    private int newLabel() {
        return once(2) ? 1 + pick(once(4) ? 9999 : 12) : -1 - anyName();
    }

    private void putLabel(int label) {
        if (label > 0) {
            put(6, pick(32768), label);
        } else {
            putName(-1 - label);
        }
    }

    private static void sort(List<Node> fields) {
        fields.sort((x, y) -> Integer.compare(rank((Integer) x.a), rank((Integer) y.a)));
    }

    private static int rank(int label) {
        return label > 0 ? label : 100000 - label;
    }

    // ---- derived forms

    private static Node caseOf(int place, Node exp, List<Node> rules) {
        return n(place, 15, n(place, 19, rules), exp);
    }

    private static Node ifElse(int place, Node a, Node b, Node c) {
        return caseOf(place, a, list(n(place, 20, n(place, 32, 0), b), n(place, 20, n(place, 32, 1), c)));
    }

    private static Node record(int place, boolean pattern, List<Node> parts) {
        List<Node> fields = new ArrayList<>();
        for (Node part : parts) {
            fields.add(n(place, pattern ? 34 : 13, fields.size() + 1, part));
        }
        return n(place, pattern ? 33 : 12, fields, pattern ? 0 : -1);
    }

    private static Node sequence(int place, List<Node> parts) {
        if (parts.size() == 1) {
            return parts.get(0);
        }
        Node rest = sequence(place, parts.subList(1, parts.size()));
        return caseOf(place, parts.get(0), list(n(place, 20, n(place, 30, -1), rest)));
    }

    private static Node listOf(int place, boolean pattern, List<Node> parts) {
        if (parts.isEmpty()) {
            return n(place, pattern ? 32 : 11, 2);
        }
        Node rest = listOf(place, pattern, parts.subList(1, parts.size()));
        Node pair = record(place, pattern, list(parts.get(0), rest));
        return pattern ? n(place, 35, 3, -1, pair) : n(place, 15, n(place, 11, 3), pair);
    }

    private static Node call(int place, Variable v) {
        return n(place, 15, n(place, 11, v), n(place, 12, -1));
    }

    private static Node loop(int place, Node a, Node b) {
        Variable v = new Variable();
        Node again = sequence(place, list(b, call(place, v)));
        Node choice = ifElse(place, a, again, n(place, 12, -1));
        Node function = n(place, 19, list(n(place, 20, n(place, 33, -1, 0), choice)));
        Node bind = n(place, 71, n(place, 32, v), function, 1);
        Node decs = n(place, 84, list(n(place, 70, -1, list(bind))));
        return n(place, 14, decs, call(place, v));
    }

    // ---- infix phrases

    /** An infix phrase: parts, operators between them, and their places. */
    private Node infix(int size, boolean pattern) {
        int many = once(2) ? 1 : 1 + pick(deep ? 2 : 5);
        List<Node> parts = new ArrayList<>();
        List<Integer> starts = new ArrayList<>();
        List<Integer> names = new ArrayList<>();
        List<Integer> places = new ArrayList<>();
        for (int k = 0; k < many; k++) {
            starts.add(at());
            parts.add(pattern ? appliedPattern(less(size)) : application(less(size)));
            if (k + 1 < many) {
                int name = operatorName();
                if (name < 0) {
                    break;
                }
                names.add(name);
                if (clashes(names)) {
                    if (oneFaultIn == 0 || once(2)) {
                        names.remove(names.size() - 1);
                        break;
                    }
                    fault(4);
                }
                places.add(at());
                if (!pattern && name == 6 && once(2)) {
                    word(EQ);
                } else {
                    putName(name);
                }
            }
        }
        return join(parts, starts, names, places, 0, parts.size() - 1, pattern);
    }

    private boolean clashes(List<Integer> names) {
        int last = names.size() - 1;
        int fixity = fix[names.get(last)];
        for (int k = last - 1; k >= 0; k--) {
            int other = fix[names.get(k)];
            if (other / 2 < fixity / 2) {
                return false;
            }
            if (other / 2 == fixity / 2 && other != fixity) {
                return true;
            }
        }
        return false;
    }

    private Node join(List<Node> parts, List<Integer> starts, List<Integer> names, List<Integer> places,
            int from, int to, boolean pattern) {
        if (from == to) {
            return parts.get(from);
        }
        int split = from;
        for (int k = from + 1; k < to; k++) {
            int least = fix[names.get(split)];
            int here = fix[names.get(k)];
            if (here / 2 < least / 2 || here == least && here % 2 == 0) {
                split = k;
            }
        }
        Node left = join(parts, starts, names, places, from, split, pattern);
        Node right = join(parts, starts, names, places, split + 1, to, pattern);
        int place = starts.get(from);
        Node pair = record(place, pattern, list(left, right));
        int name = names.get(split);
        return pattern ? n(place, 35, name, -1, pair)
            : n(place, 15, n(places.get(split), 11, name), pair);
    }

    // ---- types

    Node type(int size) {
        int place = at();
        Node left = product(less(size));
        if (size > 2 && once(4)) {
            word(ARROW);
            return n(place, 54, left, type(size - 1));
        }
        return left;
    }

    private Node product(int size) {
        int place = at();
        List<Node> parts = list(appliedType(size));
        while (size > 2 && once(4)) {
            put(3, 7, -1);
            parts.add(appliedType(less(size)));
        }
        if (parts.size() == 1) {
            return parts.get(0);
        }
        List<Node> fields = new ArrayList<>();
        for (Node part : parts) {
            fields.add(n(place, 52, fields.size() + 1, part));
        }
        return n(place, 51, fields);
    }

    private Node appliedType(int size) {
        int place = at();
        Node type = atomicType(size);
        while (once(4)) {
            type = constructor(place, list(type));
        }
        return type;
    }

    private Node constructor(int place, Object args) {
        if (once(6)) {
            int name = pick(32768);
            put(5, name, -1);
            return n(place, 53, args, -1, name);
        }
        return n(place, 53, args, shortTycon(), -1);
    }

    private int shortTycon() {
        int name = anyName();
        if (name == 7) {
            put(2, 7, -1);
        } else {
            putName(name);
        }
        return name;
    }

    private Node atomicType(int size) {
        int place = at();
        int choice = size <= 1 ? pick(2) : pick(5);
        if (choice == 0) {
            int name = anyName();
            put(4, name, -1);
            return n(place, 50, name);
        }
        if (choice == 1) {
            return constructor(place, -1);
        }
        if (choice == 2) {
            open(LB);
            List<Node> fields = new ArrayList<>();
            int many = pick(4);
            for (int k = 0; k < many; k++) {
                if (k > 0) {
                    word(COMMA);
                }
                int start = at();
                int label = label(fields);
                word(COLON);
                fields.add(n(start, 52, label, type(less(size))));
            }
            close(RB);
            sort(fields);
            return n(place, 51, fields);
        }
        open(L);
        List<Node> args = list(type(less(size)));
        while (choice == 4 && (args.size() < 2 || once(2))) {
            word(COMMA);
            args.add(type(less(size)));
        }
        close(R);
        return choice == 4 ? constructor(place, args) : args.get(0);
    }

    // ---- patterns

    Node pat(int size) {
        int place = at();
        if (size > 1 && once(6)) {
            int name = once(2) ? anyName() : plainName();
            putId(name);
            return layered(place, name, size);
        }
        Node pat = infix(size, true);
        while (once(6)) {
            word(COLON);
            pat = n(place, 36, pat, type(less(size)));
        }
        return pat;
    }

    /** Behind a name: [: type] as pat. */
    private Node layered(int place, int name, int size) {
        Object type = -1;
        if (once(2)) {
            word(COLON);
            type = type(less(size));
        }
        if (name <= 4 && depth < 32) {
            fault(6);
        }
        open(AS);
        Node inner = pat(less(size));
        depth--;
        return n(place, 37, name, type, inner);
    }

    private Node appliedPattern(int size) {
        int place = at();
        if (size > 1 && once(4)) {
            Node con = id(32);
            return n(place, 35, con.a, con.b, atomicPattern(less(size)));
        }
        return atomicPattern(size);
    }

    private Node atomicPattern(int size) {
        int place = at();
        switch (size <= 1 ? pick(3) : pick(deep ? 8 : 10)) {
            case 0:
                word(WILD);
                return n(place, 30, -1);
            case 1:
                return constant(31);
            case 3: {
                open(LB);
                Node record = patternRecord(place, size);
                close(RB);
                return record;
            }
            case 4:
            case 5: {
                open(L);
                Node inner = pat(less(size));
                close(R);
                return inner;
            }
            case 6: {
                open(L);
                List<Node> parts = once(4) ? list() : list(pat(less(size)));
                while (!parts.isEmpty() && (parts.size() < 2 || once(2))) {
                    word(COMMA);
                    parts.add(pat(less(size)));
                }
                close(R);
                return parts.isEmpty() ? n(place, 33, -1, 0) : record(place, true, parts);
            }
            case 7: {
                open(LS);
                List<Node> parts = once(4) ? list() : list(pat(less(size)));
                while (!parts.isEmpty() && once(2)) {
                    word(COMMA);
                    parts.add(pat(less(size)));
                }
                close(RS);
                return listOf(place, true, parts);
            }
            default:
                return id(32);
        }
    }

    private Node patternRecord(int place, int size) {
        List<Node> fields = new ArrayList<>();
        int many = pick(4);
        for (int k = 0; k < many; k++) {
            if (k > 0) {
                word(COMMA);
            }
            int start = at();
            int label = label(fields);
            Node part;
            if (label > 0 || once(2)) {
                word(EQ);
                part = pat(less(size));
            } else if (once(2)) {
                part = layered(start, -1 - label, size);
            } else {
                part = n(start, 32, -1 - label);
                if (once(2)) {
                    word(COLON);
                    part = n(start, 36, part, type(less(size)));
                }
            }
            fields.add(n(start, 34, label, part));
        }
        boolean dots = once(3);
        if (dots) {
            if (many > 0) {
                word(COMMA);
            }
            word(DOTS);
        }
        sort(fields);
        return n(place, 33, fields, dots ? 1 : 0);
    }

    private Node constant(int kind) {
        int place = at();
        int value = pick(32768);
        int tokenKind = 6 + pick(4);
        put(tokenKind, value, tokenKind == 6 && once(2) ? pick(10000) : -1);
        return n(place, kind, value);
    }

    // ---- expressions

    /** match tells whether it may end with a match, that is, whether no | follows. */
    Node exp(int size, boolean match) {
        if (size > 1 && once(deep ? 2 : 4)) {
            return form(size, match);
        }
        int place = at();
        Node left = null;
        boolean ended = false;
        while (left == null || !ended && size > 2 && once(5)) {
            int start = at();
            if (left != null) {
                word(ORELSE);
                start = at();
            }
            Node right = null;
            if (left != null && once(4)) {
                right = form(less(size), match);
                ended = true;
            } else {
                right = typed(less(size));
                while (!ended && size > 2 && once(5)) {
                    word(ANDALSO);
                    ended = once(4);
                    Node last = ended ? form(less(size), match) : typed(less(size));
                    right = ifElse(start, right, last, n(start, 11, 1));
                }
            }
            left = left == null ? right : ifElse(place, left, n(place, 11, 0), right);
        }
        if (match && !ended && once(8)) {
            open(HANDLE);
            left = n(place, 17, left, match(less(size), true));
            depth--;
        }
        return left;
    }

    private List<Node> match(int size, boolean match) {
        List<Node> rules = new ArrayList<>();
        int many = deep ? 1 : 1 + pick(3);
        for (int k = 0; k < many; k++) {
            if (k > 0) {
                word(BAR);
            }
            int start = at();
            Node pat = pat(less(size));
            word(RULE);
            rules.add(n(start, 20, pat, exp(less(size), match && k + 1 == many)));
        }
        return rules;
    }

    private Node form(int size, boolean match) {
        int place = at();
        int choice = pick(match ? 5 : 3);
        Node whole;
        if (choice == 0) {
            open(RAISE);
            whole = n(place, 18, exp(less(size), match));
        } else if (choice == 1) {
            open(IF);
            Node a = exp(less(size), true);
            word(THEN);
            Node b = exp(less(size), true);
            word(ELSE);
            whole = ifElse(place, a, b, exp(less(size), match));
        } else if (choice == 2) {
            open(WHILE);
            Node a = exp(less(size), true);
            word(DO);
            whole = loop(place, a, exp(less(size), match));
        } else if (choice == 3) {
            open(CASE);
            Node a = exp(less(size), true);
            word(OF);
            whole = caseOf(place, a, match(less(size), true));
        } else {
            open(FN);
            whole = n(place, 19, match(less(size), true));
        }
        depth--;
        return whole;
    }

    private Node typed(int size) {
        int place = at();
        Node exp = infix(size, false);
        while (once(8)) {
            word(COLON);
            exp = n(place, 16, exp, type(less(size)));
        }
        return exp;
    }

    private Node application(int size) {
        int place = at();
        Node exp = atomic(size);
        while (once(4)) {
            exp = n(place, 15, exp, atomic(less(size)));
        }
        return exp;
    }

    private Node atomic(int size) {
        int place = at();
        switch (size <= 1 ? pick(3) : pick(9)) {
            case 0:
                return constant(10);
            case 1:
                return id(11);
            case 2: {
                word(HASH);
                Variable v = new Variable();
                int label = label(list());
                Node record = n(place, 33, list(n(place, 34, label, n(place, 32, v))), 1);
                return n(place, 19, list(n(place, 20, record, n(place, 11, v))));
            }
            case 3:
                return record(size);
            case 4: {
                open(L);
                Node exp = exp(less(size), true);
                close(R);
                return exp;
            }
            case 5: {
                open(L);
                List<Node> parts = once(4) ? list() : exps(size, COMMA, 2);
                close(R);
                return parts.isEmpty() ? n(place, 12, -1) : record(place, false, parts);
            }
            case 6: {
                open(L);
                List<Node> parts = exps(size, SEMI, 2);
                close(R);
                return sequence(place, parts);
            }
            case 7: {
                open(LS);
                List<Node> parts = once(4) ? list() : exps(size, COMMA, 1);
                close(RS);
                return listOf(place, false, parts);
            }
            default:
                return let(size);
        }
    }

    private List<Node> exps(int size, int separator, int least) {
        List<Node> parts = list(exp(less(size), true));
        while (parts.size() < least || once(3)) {
            word(separator);
            parts.add(exp(less(size), true));
        }
        return parts;
    }

    private Node record(int size) {
        int place = at();
        open(LB);
        List<Node> fields = new ArrayList<>();
        int many = pick(4);
        for (int k = 0; k < many; k++) {
            if (k > 0) {
                word(COMMA);
            }
            int start = at();
            int label = label(fields);
            word(EQ);
            fields.add(n(start, 13, label, exp(less(size), true)));
        }
        close(RB);
        sort(fields);
        return n(place, 12, fields);
    }

    private Node let(int size) {
        int place = at();
        int[] before = fix.clone();
        List<int[]> outer = changes;
        changes = new ArrayList<>();
        open(LET);
        Node decs = decs(size);
        word(IN);
        List<Node> parts = exps(size, SEMI, 1);
        close(END);
        fix = before;
        changes = outer;
        return n(place, 14, decs, sequence(place, parts));
    }

    // ---- declarations

    private Node decs(int size) {
        int place = at();
        List<Node> decs = new ArrayList<>();
        int many = deep ? 1 : pick(4);
        for (int k = 0; k < many; k++) {
            if (once(4)) {
                word(SEMI);
            }
            Node dec = dec(less(size));
            if (dec != null) {
                decs.add(dec);
            }
        }
        if (once(4)) {
            word(SEMI);
        }
        return n(place, 84, decs);
    }

    private List<Node> variables() {
        List<Node> variables = new ArrayList<>();
        int choice = pick(6);
        if (choice == 0) {
            variables.add(variable());
        } else if (choice == 1) {
            word(L);
            variables.add(variable());
            while (once(2)) {
                word(COMMA);
                variables.add(variable());
            }
            word(R);
        }
        return variables;
    }

    private Node variable() {
        int name = anyName();
        put(4, name, -1);
        return n(at() - 1, 50, name);
    }

    /** Null for a declaration that leaves nothing. */
    private Node dec(int size) {
        int place = at();
        switch (pick(12)) {
            case 0:
            case 1:
                return val(size);
            case 2:
            case 3:
                return fun(size);
            case 4:
                word(TYPE);
                return n(place, 72, typbinds(size));
            case 5: {
                word(DATATYPE);
                List<Node> datbinds = datbinds(size);
                return n(place, 74, datbinds, withtype(size));
            }
            case 6: {
                word(DATATYPE);
                int name = shortTycon();
                word(EQ);
                word(DATATYPE);
                Node copied = constructor(place, -1);
                return n(place, 77, name, copied.b, copied.c);
            }
            case 7: {
                open(ABSTYPE);
                List<Node> datbinds = datbinds(size);
                List<Node> typbinds = withtype(size);
                word(WITH);
                Node decs = decs(less(size));
                close(END);
                return n(place, 78, datbinds, typbinds, decs);
            }
            case 8:
                return exception(size);
            case 9:
                return local(size);
            case 10:
                return openDec();
            default:
                fixity();
                return null;
        }
    }

    private Node val(int size) {
        int place = at();
        word(VAL);
        List<Node> variables = variables();
        List<Node> binds = new ArrayList<>();
        int recursive = 0;
        while (binds.isEmpty() || once(4)) {
            if (!binds.isEmpty()) {
                word(AND);
            }
            while (once(5)) {
                word(REC);
                recursive = 1;
            }
            int start = at();
            Node pat = pat(less(size));
            word(EQ);
            binds.add(n(start, 71, pat, exp(less(size), true), recursive));
        }
        return n(place, 70, variables, binds);
    }

    private Node fun(int size) {
        int place = at();
        word(FUN);
        List<Node> variables = variables();
        List<Node> binds = new ArrayList<>();
        while (binds.isEmpty() || once(4)) {
            if (!binds.isEmpty()) {
                word(AND);
            }
            binds.add(clauses(size));
        }
        return n(place, 70, variables, binds);
    }

    private int functionName() {
        if (sin()) {
            return once(2) ? 6 : pick(5);
        }
        int name = anyName();
        while (name <= 4 || name == 6) {
            name = anyName();
        }
        return name;
    }

    private Node clauses(int size) {
        int first = at();
        int name = functionName();
        int many = 1 + pick(3);
        List<Node> rules = new ArrayList<>();
        int clauses = deep ? 1 : 1 + pick(3);
        for (int k = 0; k < clauses; k++) {
            if (k > 0) {
                word(BAR);
            }
            int start = at();
            boolean otherName = k > 0 && sin();
            boolean otherMany = k > 0 && sin();
            int clauseName = otherName ? functionName() : name;
            int clauseMany = otherMany ? 1 + pick(3) : many;
            List<Node> pats = head(size, clauseName, clauseMany);
            Node type = null;
            if (once(4)) {
                word(COLON);
                type = type(less(size));
            }
            if (clauseName <= 4 || clauseName == 6) {
                fault(6);
            } else if (clauseName != name || clauseMany != many) {
                fault(3);
            }
            word(EQ);
            Node exp = exp(less(size), k + 1 == clauses);
            if (type != null) {
                exp = n(exp.place, 16, exp, type);
            }
            Node pat = pats.size() == 1 ? pats.get(0) : record(start, true, pats);
            rules.add(n(start, 20, pat, exp));
        }
        return function(first, name, many, rules);
    }

    private static Node function(int place, int name, int many, List<Node> rules) {
        List<Variable> variables = new ArrayList<>();
        List<Node> names = new ArrayList<>();
        for (int k = 0; k < many; k++) {
            variables.add(new Variable());
            names.add(n(place, 11, variables.get(k)));
        }
        Node body = caseOf(place, many == 1 ? names.get(0) : record(place, false, names), rules);
        for (int k = many - 1; k >= 0; k--) {
            body = n(place, 19, list(n(place, 20, n(place, 32, variables.get(k)), body)));
        }
        return n(place, 71, n(place, 32, name), body, 1);
    }

    private List<Node> head(int size, int name, int many) {
        int start = at();
        List<Node> pats = new ArrayList<>();
        boolean infix = fix[name] >= 0 && once(2);
        if (!infix) {
            putFunction(name);
        } else {
            boolean brackets = many > 1 || once(2);
            if (brackets) {
                open(L);
            }
            Node left = brackets ? atomicPattern(less(size)) : opless(less(size));
            putName(name);
            pats.add(record(start, true, list(left, atomicPattern(less(size)))));
            if (brackets) {
                close(R);
            }
        }
        while (pats.size() < many) {
            pats.add(atomicPattern(less(size)));
        }
        return pats;
    }

    /** The name = may be told by the sign, behind op; the first pattern must follow, whatever the name. */
    private void putFunction(int name) {
        if (name == 6 && once(2)) {
            word(OP);
            word(EQ);
        } else {
            putId(name);
        }
        if (sin()) {
            fault(1);
            word(once(2) ? EQ : COLON);
        }
    }

    /** An atomic pattern that does not begin with op: such a head would be of the first form. */
    private Node opless(int size) {
        int start = at();
        Node pat = atomicPattern(size);
        while (tokens.get(start)[0] == 1 && tokens.get(start)[1] == OP) {
            tokens.subList(start, at()).clear();
            if (faultPlace >= start) {
                faultKind = 0;
                faultPlace = -1;
            }
            pat = atomicPattern(size);
        }
        return pat;
    }

    private List<Node> typbinds(int size) {
        List<Node> binds = new ArrayList<>();
        while (binds.isEmpty() || once(4)) {
            if (!binds.isEmpty()) {
                word(AND);
            }
            int start = at();
            List<Node> variables = variables();
            int name = shortTycon();
            word(EQ);
            binds.add(n(start, 73, variables, name, type(less(size))));
        }
        return binds;
    }

    private List<Node> withtype(int size) {
        if (!once(3)) {
            return list();
        }
        word(WITHTYPE);
        return typbinds(size);
    }

    private List<Node> datbinds(int size) {
        List<Node> binds = new ArrayList<>();
        while (binds.isEmpty() || once(4)) {
            if (!binds.isEmpty()) {
                word(AND);
            }
            int start = at();
            List<Node> variables = variables();
            int name = shortTycon();
            word(EQ);
            List<Node> cons = new ArrayList<>();
            while (cons.isEmpty() || once(2)) {
                if (!cons.isEmpty()) {
                    word(BAR);
                }
                int place = at();
                int con = boundName();
                cons.add(n(place, 76, con, ofType(size)));
            }
            binds.add(n(start, 75, variables, name, cons));
        }
        return binds;
    }

    private Object ofType(int size) {
        if (once(2)) {
            return -1;
        }
        word(OF);
        return type(less(size));
    }

    /** Puts the name of a constructor or exception: an operator needs no op there. */
    private int boundName() {
        int name = anyName();
        while (name <= 5 && !sin()) {
            name = anyName();
        }
        boolean behindOp = once(4);
        if (behindOp) {
            word(OP);
        }
        if (name <= 5) {
            fault(6);
        }
        if (behindOp && sin()) {
            fault(6);
            word(EQ);
        } else {
            putName(name);
        }
        return name;
    }

    private Node exception(int size) {
        int place = at();
        word(EXCEPTION);
        List<Node> binds = new ArrayList<>();
        while (binds.isEmpty() || once(3)) {
            if (!binds.isEmpty()) {
                word(AND);
            }
            int start = at();
            int name = boundName();
            if (once(3)) {
                word(EQ);
                Node copied = id(11);
                binds.add(n(start, 81, name, copied.a, copied.b));
            } else {
                binds.add(n(start, 80, name, ofType(size)));
            }
        }
        return n(place, 79, binds);
    }

    private Node local(int size) {
        int place = at();
        int[] before = fix.clone();
        List<int[]> outer = changes;
        open(LOCAL);
        changes = new ArrayList<>();
        Node hidden = decs(less(size));
        word(IN);
        changes = new ArrayList<>();
        Node shown = decs(less(size));
        close(END);
        fix = before;
        for (int[] change : changes) {
            fix[change[0]] = change[1];
        }
        outer.addAll(changes);
        changes = outer;
        return n(place, 82, hidden, shown);
    }

    private Node openDec() {
        int place = at();
        word(OPEN);
        List<Node> names = new ArrayList<>();
        while (names.isEmpty() || once(2)) {
            int start = at();
            if (once(2)) {
                int name = pick(32768);
                put(5, name, -1);
                names.add(n(start, 11, -1, name));
            } else {
                int name = anyName();
                put(2, name, -1);
                names.add(n(start, 11, name));
            }
        }
        return n(place, 83, names);
    }

    private void fixity() {
        int side = pick(3);
        word(side == 0 ? INFIX : side == 1 ? INFIXR : NONFIX);
        int precedence = 0;
        if (side < 2 && !once(4)) {
            precedence = once(2) ? pick(10) : 4 + pick(3);
            put(6, pick(32768), precedence);
        }
        int fixity = side == 2 ? -1 : 2 * precedence + side;
        do {
            int name = anyName();
            putName(name);
            fix[name] = fixity;
            changes.add(new int[] {name, fixity});
        } while (once(2));
    }

    // ---- programs

    Node program(int size) {
        List<Node> decs = new ArrayList<>();
        boolean expMayStand = true;
        while (once(2)) {
            fixity();
            expMayStand = false;
        }
        int many = 1 + pick(5);
        for (int k = 0; k < many; k++) {
            int choice = pick(4);
            int place = at();
            if (choice == 0) {
                word(SEMI);
                expMayStand = true;
            } else if (choice < 3 && expMayStand) {
                Node exp = exp(size, true);
                Node bind = n(place, 71, n(place, 32, 5), exp, 0);
                decs.add(n(place, 70, -1, list(bind)));
                expMayStand = once(2);
                if (expMayStand || k + 1 < many) {
                    word(SEMI);
                    expMayStand = true;
                }
            } else {
                Node dec = dec(size);
                if (dec != null) {
                    decs.add(dec);
                }
                expMayStand = false;
            }
        }
        return n(0, 84, decs);
    }

    // ---- what is due, in preorder

    static List<int[]> rows(Node root) {
        List<int[]> rows = new ArrayList<>();
        int[] variables = {0};
        add(rows, root, variables);
        return rows;
    }

    private static int add(List<int[]> rows, Node node, int[] variables) {
        int number = rows.size();
        int[] row = {node.kind, -1, -1, -1, node.place};
        rows.add(row);
        row[1] = field(rows, node.a, variables);
        row[2] = field(rows, node.b, variables);
        row[3] = field(rows, node.c, variables);
        return number;
    }

    private static int field(List<int[]> rows, Object field, int[] variables) {
        if (field instanceof Integer) {
            return (Integer) field;
        }
        if (field instanceof Node) {
            return add(rows, (Node) field, variables);
        }
        if (field instanceof Variable) {
            Variable variable = (Variable) field;
            if (variable.number < 0) {
                variable.number = 8192 + variables[0];
                variables[0]++;
            }
            return variable.number;
        }
        int first = -1;
        int[] last = null;
        for (Object head : (List<?>) field) {
            int[] row = {1, -1, -1, -1, ((Node) head).place};
            int number = rows.size();
            rows.add(row);
            if (last == null) {
                first = number;
            } else {
                last[2] = number;
            }
            last = row;
            row[1] = add(rows, (Node) head, variables);
        }
        return first;
    }
}
