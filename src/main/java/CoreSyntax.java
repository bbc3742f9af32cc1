import java.util.Arrays;

/**
 * A reader of programs of a functional language: tokens that come as numbers become a tree of
 * numbers in the bare language, or the first token that cannot stand where it is.
 */
public final class CoreSyntax {
    public static final int NONE = -1;
    public static final int FULL = -2;

    private static final int MOST_TOKENS = 3000;
    private static final int MOST_OPEN = 32;
    private static final int NAMES = 8192;
    private static final int NUMBERS = 32768;
    private static final int MOST_LABEL = 9999;
    private static final int LAST_WORD = 58;
    private static final int FIRST_ROOM = 64;
    private static final int MOST_CELLS = 65536;
    /** No loop over tokens turns more often: every turn takes a token, or ends. */
    private static final int MOST_TURNS = 3001;

    private static final int WORD = 1;
    private static final int ALPHANUMERIC = 2;
    private static final int SYMBOLIC = 3;
    private static final int TYPE_VARIABLE = 4;
    private static final int LONG_NAME = 5;
    private static final int INTEGER = 6;
    private static final int STRING = 9;

    private static final int W_ABSTYPE = 1;
    private static final int W_AND = 2;
    private static final int W_ANDALSO = 3;
    private static final int W_AS = 4;
    private static final int W_CASE = 5;
    private static final int W_DATATYPE = 6;
    private static final int W_DO = 7;
    private static final int W_ELSE = 8;
    private static final int W_END = 9;
    private static final int W_EXCEPTION = 10;
    private static final int W_FN = 11;
    private static final int W_FUN = 12;
    private static final int W_HANDLE = 13;
    private static final int W_IF = 14;
    private static final int W_IN = 15;
    private static final int W_INFIX = 16;
    private static final int W_INFIXR = 17;
    private static final int W_LET = 18;
    private static final int W_LOCAL = 19;
    private static final int W_NONFIX = 20;
    private static final int W_OF = 21;
    private static final int W_OP = 22;
    private static final int W_OPEN = 23;
    private static final int W_ORELSE = 24;
    private static final int W_RAISE = 25;
    private static final int W_REC = 26;
    private static final int W_THEN = 27;
    private static final int W_TYPE = 28;
    private static final int W_VAL = 29;
    private static final int W_WITH = 30;
    private static final int W_WITHTYPE = 31;
    private static final int W_WHILE = 32;
    private static final int S_ROUND = 33;
    private static final int S_ROUND_END = 34;
    private static final int S_SQUARE = 35;
    private static final int S_SQUARE_END = 36;
    private static final int S_BRACE = 37;
    private static final int S_BRACE_END = 38;
    private static final int S_COMMA = 39;
    private static final int S_COLON = 40;
    private static final int S_SEMICOLON = 41;
    private static final int S_DOTS = 42;
    private static final int S_WILD = 43;
    private static final int S_BAR = 44;
    private static final int S_EQUALS = 45;
    private static final int S_RULE = 46;
    private static final int S_ARROW = 47;
    private static final int S_HASH = 48;

    private static final int N_TRUE = 0;
    private static final int N_FALSE = 1;
    private static final int N_NIL = 2;
    private static final int N_CONS = 3;
    private static final int N_REF = 4;
    private static final int N_IT = 5;
    private static final int N_EQUALS = 6;
    private static final int N_STAR = 7;

    private static final int LIST = 1;
    private static final int CONSTANT = 10;
    private static final int NAME = 11;
    private static final int RECORD = 12;
    private static final int FIELD = 13;
    private static final int LET = 14;
    private static final int APPLY = 15;
    private static final int TYPED = 16;
    private static final int HANDLE = 17;
    private static final int RAISE = 18;
    private static final int FN = 19;
    private static final int RULE = 20;
    private static final int WILD = 30;
    private static final int PCONSTANT = 31;
    private static final int PNAME = 32;
    private static final int PRECORD = 33;
    private static final int PFIELD = 34;
    private static final int PCON = 35;
    private static final int PTYPED = 36;
    private static final int PLAYERED = 37;
    private static final int TVAR = 50;
    private static final int TRECORD = 51;
    private static final int TFIELD = 52;
    private static final int TCON = 53;
    private static final int TARROW = 54;
    private static final int VAL = 70;
    private static final int BIND = 71;
    private static final int TYPE = 72;
    private static final int TYPBIND = 73;
    private static final int DATATYPE = 74;
    private static final int DATBIND = 75;
    private static final int CONBIND = 76;
    private static final int REPLICATE = 77;
    private static final int ABSTYPE = 78;
    private static final int EXCEPTION = 79;
    private static final int EXBIND = 80;
    private static final int EXCOPY = 81;
    private static final int LOCAL = 82;
    private static final int OPEN = 83;
    private static final int DECS = 84;

    /** Which of a node's fields are nodes themselves. */
    private static final int IN_A = 1;
    private static final int IN_B = 2;
    private static final int IN_C = 4;

    private static final int MISPLACED = 1;
    private static final int LABEL_TWICE = 2;
    private static final int OTHER_CLAUSE = 3;
    private static final int OPERATORS_CLASH = 4;
    private static final int TOO_DEEP = 5;
    private static final int NOT_BINDABLE = 6;

    /** The fixities of the names 0 .. 22 at first. */
    private static final int[] FIRST_FIXITIES = {
        -1, -1, -1, 11, -1, -1, 8, 14, 12, 12, 14, 14, 14, 12, 11, 8, 8, 8, 8, 8, 6, 6, 0
    };

    private final Fixities fixities;
    private final Cursor cursor;
    private final Tree work;
    private final Tree tree;
    private final Operators operators;
    private final Forms forms;
    private final Reader reader;
    private final Numbering numbering;

    public CoreSyntax() {
        fixities = new Fixities();
        cursor = new Cursor(fixities);
        work = new Tree();
        tree = new Tree();
        operators = new Operators(cursor, work);
        forms = new Forms(work);
        reader = new Reader(cursor, work, fixities, operators, forms);
        numbering = new Numbering(work, tree);
    }

    public int token(int kind, int value, int number) {
        if (!isToken(kind, value, number)) {
            return NONE;
        }
        if (cursor.count >= MOST_TOKENS) {
            return FULL;
        }
        cursor.keep(kind, value, number);
        return cursor.count;
    }

    private static boolean isToken(int kind, int value, int number) {
        if (kind < WORD || kind > STRING) {
            return false;
        }
        boolean numbered = kind == INTEGER && number >= 0 && number <= MOST_LABEL;
        if (number != NONE && !numbered) {
            return false;
        }
        if (kind == WORD) {
            return value >= 1 && value <= LAST_WORD;
        }
        return value >= 0 && value < (kind < LONG_NAME ? NAMES : NUMBERS);
    }

    public int clear() {
        int count = cursor.count;
        cursor.count = 0;
        return count;
    }

    public int parse() {
        work.empty();
        tree.empty();
        operators.empty();
        forms.variables = 0;
        numbering.variables = 0;
        cursor.begin();
        int root = reader.decs(true);
        cursor.count = 0;
        if (cursor.faultKind != 0) {
            fixities.back(0);
            return NONE;
        }
        fixities.commit();
        numbering.number(root);
        return tree.size;
    }

    public int fault(int what) {
        if (what == 0) {
            return cursor.faultKind;
        }
        return what == 1 ? cursor.faultPlace : NONE;
    }

    public boolean retreat() {
        return fixities.restore();
    }

    public int fixity(int name) {
        return fixities.of(name);
    }

    public int tokens() {
        return cursor.count;
    }

    public int nodes() {
        return tree.size;
    }

    public int node(int i, int what) {
        switch (what) {
            case 0:
                return tree.kind(i);
            case 1:
                return tree.a(i);
            case 2:
                return tree.b(i);
            case 3:
                return tree.c(i);
            case 4:
                return tree.place(i);
            default:
                return NONE;
        }
    }

    public int length(int i) {
        return tree.heads(i);
    }

    public int item(int i, int k) {
        int cell = i;
        for (int turn = 0; turn < k && turn < tree.size; turn++) {
            cell = tree.kind(cell) == LIST ? tree.b(cell) : NONE;
        }
        return k >= 0 && k < tree.size && tree.kind(cell) == LIST ? tree.a(cell) : NONE;
    }

    public int behind(int i) {
        return tree.has(i) ? tree.end(i) : NONE;
    }

    public boolean same(int i, int j) {
        if (!tree.has(i) || !tree.has(j)) {
            return false;
        }
        int many = tree.end(i) - i;
        if (tree.end(j) - j != many) {
            return false;
        }
        for (int step = 0; step < many; step++) {
            if (!tree.alike(i + step, j + step, j - i)) {
                return false;
            }
        }
        return true;
    }

    public int fresh() {
        return numbering.variables;
    }

    /** A row of numbers that grows; a place outside it reads as NONE. */
    private static final class Row {
        private int[] cells = new int[FIRST_ROOM];
        private int size = 0;

        int get(int i) {
            return i >= 0 && i < size ? cells[i] : NONE;
        }

        void set(int i, int value) {
            if (i >= 0 && i < size) {
                cells[i] = value;
            }
        }

        void push(int value) {
            if (size >= MOST_CELLS) {
                return;
            }
            if (size >= cells.length) {
                cells = Arrays.copyOf(cells, cells.length * 2);
            }
            cells[size] = value;
            size++;
        }

        void cut(int newSize) {
            if (newSize >= 0 && newSize < size) {
                size = newSize;
            }
        }
    }

    /** Which names are operators, with a trail of the changes so that they can be taken back. */
    private static final class Fixities {
        /** A fixity and 1, so that a row of zeros has no operators. */
        private final int[] held = new int[NAMES];
        private final Row names = new Row();
        private final Row before = new Row();
        private final Row after = new Row();
        private final Row savedNames = new Row();
        private final Row savedBefore = new Row();
        private boolean saved = false;

        Fixities() {
            for (int name = 0; name < FIRST_FIXITIES.length; name++) {
                hold(name, FIRST_FIXITIES[name]);
            }
        }

        int of(int name) {
            return name >= 0 && name < held.length ? held[name] - 1 : NONE;
        }

        private void hold(int name, int fixity) {
            if (name >= 0 && name < held.length) {
                held[name] = fixity + 1;
            }
        }

        void change(int name, int fixity) {
            names.push(name);
            before.push(of(name));
            after.push(fixity);
            hold(name, fixity);
        }

        int mark() {
            return names.size;
        }

        void back(int mark) {
            undo(mark);
            cut(mark);
        }

        /** Takes back the changes from outer up to inner, but not those behind inner. */
        void leaveLocal(int outer, int inner) {
            undo(outer);
            int kept = outer;
            for (int k = inner; k < names.size; k++) {
                int name = names.get(k);
                names.set(kept, name);
                before.set(kept, of(name));
                after.set(kept, after.get(k));
                hold(name, after.get(k));
                kept++;
            }
            cut(kept);
        }

        private void undo(int mark) {
            for (int k = names.size - 1; k >= mark; k--) {
                hold(names.get(k), before.get(k));
            }
        }

        private void cut(int size) {
            names.cut(size);
            before.cut(size);
            after.cut(size);
        }

        /** Keeps the trail of a parse without fault apart: a parse with one may come before restore. */
        void commit() {
            savedNames.cut(0);
            savedBefore.cut(0);
            for (int k = 0; k < names.size; k++) {
                savedNames.push(names.get(k));
                savedBefore.push(before.get(k));
            }
            cut(0);
            saved = true;
        }

        boolean restore() {
            boolean had = saved;
            for (int k = savedNames.size - 1; k >= 0; k--) {
                hold(savedNames.get(k), savedBefore.get(k));
            }
            savedNames.cut(0);
            savedBefore.cut(0);
            saved = false;
            return had;
        }
    }

    /** Nodes in rows; a node that is not there reads as NONE. */
    private static final class Tree {
        private int[] kinds = new int[FIRST_ROOM];
        private int[] as = new int[FIRST_ROOM];
        private int[] bs = new int[FIRST_ROOM];
        private int[] cs = new int[FIRST_ROOM];
        private int[] places = new int[FIRST_ROOM];
        private int room = FIRST_ROOM;
        private int size = 0;

        void empty() {
            size = 0;
        }

        boolean has(int i) {
            return i >= 0 && i < size;
        }

        int kind(int i) {
            return i >= 0 && i < size ? kinds[i] : NONE;
        }

        int a(int i) {
            return i >= 0 && i < size ? as[i] : NONE;
        }

        int b(int i) {
            return i >= 0 && i < size ? bs[i] : NONE;
        }

        int c(int i) {
            return i >= 0 && i < size ? cs[i] : NONE;
        }

        int place(int i) {
            return i >= 0 && i < size ? places[i] : NONE;
        }

        void setA(int i, int value) {
            if (i >= 0 && i < size) {
                as[i] = value;
            }
        }

        void setB(int i, int value) {
            if (i >= 0 && i < size) {
                bs[i] = value;
            }
        }

        void setC(int i, int value) {
            if (i >= 0 && i < size) {
                cs[i] = value;
            }
        }

        void setPlace(int i, int value) {
            if (i >= 0 && i < size) {
                places[i] = value;
            }
        }

        int add(int kind, int a, int b, int c, int place) {
            if (size >= MOST_CELLS) {
                return NONE;
            }
            if (size >= room) {
                room = room * 2;
                kinds = Arrays.copyOf(kinds, room);
                as = Arrays.copyOf(as, room);
                bs = Arrays.copyOf(bs, room);
                cs = Arrays.copyOf(cs, room);
                places = Arrays.copyOf(places, room);
            }
            kinds[size] = kind;
            as[size] = a;
            bs[size] = b;
            cs[size] = c;
            places[size] = place;
            size++;
            return size - 1;
        }

        /** A new cell of a list, behind its last one if it has any. */
        int append(int last, int head) {
            int cell = add(LIST, head, NONE, NONE, place(head));
            setB(last, cell);
            return cell;
        }

        int heads(int list) {
            int many = 0;
            int cell = list;
            while (many < size && kind(cell) == LIST) {
                many++;
                cell = b(cell);
            }
            return many;
        }

        /** A record of two parts, as a pair or an operator has it. */
        int pair(int recordKind, int first, int second, int place) {
            int fieldKind = recordKind == PRECORD ? PFIELD : FIELD;
            int list = append(NONE, add(fieldKind, 1, first, NONE, place));
            append(list, add(fieldKind, 2, second, NONE, place));
            return add(recordKind, list, recordKind == PRECORD ? 0 : NONE, NONE, place);
        }

        void setSecond(int pair, int second) {
            setB(a(b(a(pair))), second);
        }

        boolean hasLabel(int fields, int label) {
            int cell = fields;
            for (int turn = 0; turn < MOST_TURNS && has(cell); turn++) {
                if (a(a(cell)) == label) {
                    return true;
                }
                cell = b(cell);
            }
            return false;
        }

        /** Puts a field where its label belongs: the first cell of the list then. */
        int insert(int fields, int field) {
            int behind = NONE;
            int cell = fields;
            for (int turn = 0; turn < MOST_TURNS && has(cell); turn++) {
                if (rank(a(a(cell))) > rank(a(field))) {
                    break;
                }
                behind = cell;
                cell = b(cell);
            }
            int added = append(behind, field);
            setB(added, cell);
            return behind == NONE ? added : fields;
        }

        private static int rank(int label) {
            return label > 0 ? label : MOST_LABEL - label;
        }

        static int kids(int kind) {
            switch (kind) {
                case RECORD: case RAISE: case FN: case PRECORD: case TRECORD: case TCON:
                case TYPE: case EXCEPTION: case OPEN: case DECS:
                    return IN_A;
                case FIELD: case PFIELD: case TFIELD: case CONBIND: case EXBIND:
                    return IN_B;
                case PCON:
                    return IN_C;
                case LIST: case LET: case APPLY: case TYPED: case HANDLE: case RULE: case PTYPED:
                case TARROW: case VAL: case BIND: case DATATYPE: case LOCAL:
                    return IN_A | IN_B;
                case TYPBIND: case DATBIND:
                    return IN_A | IN_C;
                case PLAYERED:
                    return IN_B | IN_C;
                case ABSTYPE:
                    return IN_A | IN_B | IN_C;
                default:
                    return 0;
            }
        }

        /** In a tree numbered in preorder, the number behind all that is in a node. */
        int end(int i) {
            int last = i;
            for (int turn = 0; turn < size; turn++) {
                int kid = lastKid(last);
                if (kid == NONE) {
                    break;
                }
                last = kid;
            }
            return last + 1;
        }

        private int lastKid(int i) {
            int kids = kids(kind(i));
            if ((kids & IN_C) != 0 && c(i) != NONE) {
                return c(i);
            }
            if ((kids & IN_B) != 0 && b(i) != NONE) {
                return b(i);
            }
            return (kids & IN_A) != 0 ? a(i) : NONE;
        }

        /** Whether two nodes are alike, when the nodes in the second lie that much further on. */
        boolean alike(int i, int j, int further) {
            int kids = kids(kind(i));
            return kind(i) == kind(j)
                && matches(a(i), a(j), (kids & IN_A) != 0 ? further : 0)
                && matches(b(i), b(j), (kids & IN_B) != 0 ? further : 0)
                && matches(c(i), c(j), (kids & IN_C) != 0 ? further : 0);
        }

        private static boolean matches(int one, int other, int further) {
            if (one == NONE || other == NONE) {
                return one == other;
            }
            return one + further == other;
        }
    }

    /** Stands at a token of the text; a fault moves it to the end, where all reading stops. */
    private static final class Cursor {
        private final Fixities fixities;
        private int[] kinds = new int[FIRST_ROOM];
        private int[] values = new int[FIRST_ROOM];
        private int[] numbers = new int[FIRST_ROOM];
        private int count = 0;
        private int at = 0;
        private int kind = NONE;
        private int value = NONE;
        private int number = NONE;
        private int depth = 0;
        private int faultKind = 0;
        private int faultPlace = NONE;
        /** What readId has read: one of the two is NONE. */
        private int name = NONE;
        private int longName = NONE;

        Cursor(Fixities fixities) {
            this.fixities = fixities;
        }

        void keep(int newKind, int newValue, int newNumber) {
            if (count >= kinds.length) {
                kinds = Arrays.copyOf(kinds, count * 2);
                values = Arrays.copyOf(values, count * 2);
                numbers = Arrays.copyOf(numbers, count * 2);
            }
            kinds[count] = newKind;
            values[count] = newValue;
            numbers[count] = newNumber;
            count++;
        }

        void begin() {
            depth = 0;
            faultKind = 0;
            faultPlace = NONE;
            at = NONE;
            step();
        }

        void step() {
            at = Math.min(at + 1, count);
            boolean there = at >= 0 && at < count;
            kind = there ? kinds[at] : NONE;
            value = there ? values[at] : NONE;
            number = there ? numbers[at] : NONE;
        }

        void refuse(int fault) {
            if (faultKind == 0) {
                faultKind = fault;
                faultPlace = at;
            }
            at = count;
            kind = NONE;
            value = NONE;
            number = NONE;
        }

        boolean atWord(int word) {
            return kind == WORD && value == word;
        }

        int word() {
            return kind == WORD ? value : 0;
        }

        boolean skip(int word) {
            boolean there = kind == WORD && value == word;
            if (there) {
                step();
            }
            return there;
        }

        void take(int word) {
            if (kind == WORD && value == word) {
                step();
            } else {
                refuse(MISPLACED);
            }
        }

        /** Takes a token that opens a level, if one more may be open. */
        void enter() {
            if (depth >= MOST_OPEN) {
                refuse(TOO_DEEP);
            } else {
                depth++;
                step();
            }
        }

        /** Takes the word as, which opens a level behind a name that may be bound. */
        void enterLayer(int bound) {
            if (depth < MOST_OPEN && bound <= N_REF) {
                refuse(NOT_BINDABLE);
            } else {
                enter();
            }
        }

        void leave() {
            depth--;
        }

        void close(int word) {
            take(word);
            depth--;
        }

        int kindAt(int place) {
            return place >= 0 && place < count ? kinds[place] : NONE;
        }

        int valueAt(int place) {
            return place >= 0 && place < count ? values[place] : NONE;
        }

        boolean wordAt(int place, int word) {
            return kindAt(place) == WORD && valueAt(place) == word;
        }

        boolean nameAt(int place) {
            return kindAt(place) == ALPHANUMERIC || kindAt(place) == SYMBOLIC;
        }

        boolean operatorAt(int place) {
            return nameAt(place) && fixities.of(valueAt(place)) != NONE;
        }

        boolean atConstant() {
            return kind >= INTEGER && kind <= STRING;
        }

        boolean atName() {
            return kind == ALPHANUMERIC || kind == SYMBOLIC;
        }

        boolean atPlainName() {
            return atName() && fixities.of(value) == NONE;
        }

        /** The name of the operator here, NONE without one; the sign = is one in expressions alone. */
        int operatorHere(boolean inExp) {
            int here = atName() ? value : NONE;
            if (inExp && kind == WORD && value == S_EQUALS) {
                here = N_EQUALS;
            }
            return fixities.of(here) == NONE ? NONE : here;
        }

        boolean atId() {
            return kind == LONG_NAME || kind == WORD && value == W_OP || atPlainName();
        }

        boolean atShortTycon() {
            return kind == ALPHANUMERIC || kind == SYMBOLIC && value != N_STAR;
        }

        boolean atTycon() {
            return kind == LONG_NAME || kind == ALPHANUMERIC || kind == SYMBOLIC && value != N_STAR;
        }

        boolean atStar() {
            return kind == SYMBOLIC && value == N_STAR;
        }

        /** Reads an ID into name and longName. */
        void readId(boolean inPattern) {
            name = NONE;
            longName = NONE;
            if (kind == LONG_NAME) {
                longName = value;
                step();
                return;
            }
            boolean behindOp = skip(W_OP);
            if (behindOp ? atName() : atPlainName()) {
                name = value;
                step();
            } else if (!behindOp || !atWord(S_EQUALS)) {
                refuse(MISPLACED);
            } else if (inPattern) {
                refuse(NOT_BINDABLE);
            } else {
                name = N_EQUALS;
                step();
            }
        }

        /** Reads [op] NAME as that of a constructor or exception. */
        int readConstructor() {
            boolean behindOp = skip(W_OP);
            boolean kept = atName() ? value <= N_IT : behindOp && atWord(S_EQUALS);
            if (kept) {
                refuse(NOT_BINDABLE);
                return NONE;
            }
            return readName();
        }

        /** Reads [op] NAME, or op and the sign =, of a function: the clause's = tells which may not be bound. */
        int readFunction() {
            boolean behindOp = skip(W_OP);
            return behindOp && skip(S_EQUALS) ? N_EQUALS : readName();
        }

        private int readName() {
            int here = value;
            if (!atName()) {
                refuse(MISPLACED);
                return NONE;
            }
            step();
            return here;
        }

        /** Reads the name of a type that is bound. */
        int readShortTycon() {
            int bound = value;
            if (!atShortTycon()) {
                refuse(MISPLACED);
                return NONE;
            }
            step();
            return bound;
        }

        /** Reads a TYCON into name and longName. */
        void readTycon() {
            name = kind == LONG_NAME ? NONE : value;
            longName = kind == LONG_NAME ? value : NONE;
            if (atTycon()) {
                step();
            } else {
                refuse(MISPLACED);
            }
        }

        /** Reads a label that is not yet among the fields of a record. */
        int readLabel(Tree tree, int fields) {
            int label = atName() ? -1 - value : number;
            if (!atName() && (kind != INTEGER || number < 1)) {
                refuse(MISPLACED);
            } else if (tree.hasLabel(fields, label)) {
                refuse(LABEL_TWICE);
            } else {
                step();
            }
            return label;
        }

        /** Takes the = of a clause, if its head agrees with that of the first clause. */
        void takeClauseEquals(int clauseName, boolean agrees) {
            if (!atWord(S_EQUALS)) {
                refuse(MISPLACED);
            } else if (clauseName <= N_REF || clauseName == N_EQUALS) {
                refuse(NOT_BINDABLE);
            } else if (!agrees) {
                refuse(OTHER_CLAUSE);
            } else {
                step();
            }
        }
    }

    /** The operators that wait for their right side, with their left sides. */
    private static final class Operators {
        private final Cursor cursor;
        private final Tree tree;
        private final Row fixes = new Row();
        private final Row names = new Row();
        private final Row places = new Row();
        private final Row lefts = new Row();
        private final Row starts = new Row();
        /** Where the phrase begins that settle has joined last. */
        private int start = 0;

        Operators(Cursor cursor, Tree tree) {
            this.cursor = cursor;
            this.tree = tree;
        }

        void empty() {
            cut(0);
        }

        private void cut(int size) {
            fixes.cut(size);
            names.cut(size);
            places.cut(size);
            lefts.cut(size);
            starts.cut(size);
        }

        int waiting() {
            return fixes.size;
        }

        /** Joins what binds tighter than the operator that comes (NONE when none comes). */
        int settle(int base, int coming, int operand, int operandStart, boolean inPattern) {
            int right = operand;
            start = operandStart;
            int fix = cursor.fixities.of(coming);
            for (int top = fixes.size - 1; top >= base && tighter(fixes.get(top), fix); top--) {
                start = starts.get(top);
                int name = names.get(top);
                int pair = tree.pair(inPattern ? PRECORD : RECORD, lefts.get(top), right, start);
                if (inPattern) {
                    right = tree.add(PCON, name, NONE, pair, start);
                } else {
                    int function = tree.add(NAME, name, NONE, NONE, places.get(top));
                    right = tree.add(APPLY, function, pair, NONE, start);
                }
                cut(top);
            }
            return right;
        }

        private static boolean tighter(int waiting, int coming) {
            return waiting >> 1 > coming >> 1 || waiting == coming && (waiting & 1) == 0;
        }

        /** Takes the operator here, behind what settle has joined. */
        void put(int base, int name, int left) {
            int fix = cursor.fixities.of(name);
            int top = fixes.size - 1;
            if (top >= base && fixes.get(top) >> 1 == fix >> 1 && fixes.get(top) != fix) {
                cursor.refuse(OPERATORS_CLASH);
                return;
            }
            fixes.push(fix);
            names.push(name);
            places.push(cursor.at);
            lefts.push(left);
            starts.push(start);
            cursor.step();
        }
    }

    /** Rewrites derived forms; every node that is added has the place of its form. */
    private static final class Forms {
        private final Tree tree;
        /** How many fresh variables there are; their numbers are put in order when all is read. */
        private int variables = 0;

        Forms(Tree tree) {
            this.tree = tree;
        }

        private int name(int name, int place) {
            return tree.add(NAME, name, NONE, NONE, place);
        }

        private int bound(int name, int place) {
            return tree.add(PNAME, name, NONE, NONE, place);
        }

        int unit(int place) {
            return tree.add(RECORD, NONE, NONE, NONE, place);
        }

        int rule(int pat, int exp, int place) {
            return tree.add(RULE, pat, exp, NONE, place);
        }

        int caseOf(int exp, int rules, int place) {
            int function = tree.add(FN, rules, NONE, NONE, place);
            return tree.add(APPLY, function, exp, NONE, place);
        }

        int ifElse(int test, int yes, int no, int place) {
            int rules = tree.append(NONE, rule(bound(N_TRUE, place), yes, place));
            tree.append(rules, rule(bound(N_FALSE, place), no, place));
            return caseOf(test, rules, place);
        }

        int orElse(int left, int right, int place) {
            return ifElse(left, name(N_TRUE, place), right, place);
        }

        int andAlso(int left, int right, int place) {
            return ifElse(left, right, name(N_FALSE, place), place);
        }

        /** Makes the cells of a list of parts the cells of the list of fields. */
        int tuple(int cells, int place, boolean inPattern) {
            int cell = cells;
            for (int label = 1; label < MOST_TURNS && tree.has(cell); label++) {
                int part = tree.a(cell);
                tree.setA(cell, tree.add(inPattern ? PFIELD : FIELD, label, part, NONE, place));
                tree.setPlace(cell, place);
                cell = tree.b(cell);
            }
            int closed = inPattern ? 0 : NONE;
            return tree.add(inPattern ? PRECORD : RECORD, cells, closed, NONE, place);
        }

        /** Parts between round brackets: one alone is itself. */
        int bracketed(int cells, int place, boolean inPattern) {
            boolean alone = tree.has(cells) && tree.b(cells) == NONE;
            return alone ? tree.a(cells) : tuple(cells, place, inPattern);
        }

        int list(int cells, int place, boolean inPattern) {
            int whole = NONE;
            int unfilled = NONE;
            int cell = cells;
            for (int turn = 0; turn < MOST_TURNS && tree.has(cell); turn++) {
                int pair = tree.pair(inPattern ? PRECORD : RECORD, tree.a(cell), NONE, place);
                int cons = inPattern
                    ? tree.add(PCON, N_CONS, NONE, pair, place)
                    : tree.add(APPLY, name(N_CONS, place), pair, NONE, place);
                tree.setSecond(unfilled, cons);
                whole = whole == NONE ? cons : whole;
                unfilled = pair;
                cell = tree.b(cell);
            }
            int nil = inPattern ? bound(N_NIL, place) : name(N_NIL, place);
            tree.setSecond(unfilled, nil);
            return whole == NONE ? nil : whole;
        }

        /** Expressions of which the last one's value counts; one alone is itself. */
        int sequence(int cells, int place) {
            int whole = NONE;
            int unfilled = NONE;
            int cell = cells;
            for (int turn = 0; turn < MOST_TURNS && tree.has(cell); turn++) {
                int part = tree.a(cell);
                int rule = NONE;
                if (tree.b(cell) != NONE) {
                    int wild = tree.add(WILD, NONE, NONE, NONE, place);
                    rule = rule(wild, NONE, place);
                    part = caseOf(part, tree.append(NONE, rule), place);
                }
                tree.setB(unfilled, part);
                whole = whole == NONE ? part : whole;
                unfilled = rule;
                cell = tree.b(cell);
            }
            return whole;
        }

        private int variable() {
            variables++;
            return NAMES + variables - 1;
        }

        private int call(int function, int place) {
            return tree.add(APPLY, name(function, place), unit(place), NONE, place);
        }

        private int function(int pat, int exp, int place) {
            int rules = tree.append(NONE, rule(pat, exp, place));
            return tree.add(FN, rules, NONE, NONE, place);
        }

        int whileDo(int test, int body, int place) {
            int loop = variable();
            int parts = tree.append(NONE, body);
            tree.append(parts, call(loop, place));
            int choice = ifElse(test, sequence(parts, place), unit(place), place);
            int function = function(tree.add(PRECORD, NONE, 0, NONE, place), choice, place);
            int bind = tree.add(BIND, bound(loop, place), function, 1, place);
            int val = tree.add(VAL, NONE, tree.append(NONE, bind), NONE, place);
            int decs = tree.add(DECS, tree.append(NONE, val), NONE, NONE, place);
            return tree.add(LET, decs, call(loop, place), NONE, place);
        }

        int selector(int label, int place) {
            int part = variable();
            int field = tree.add(PFIELD, label, bound(part, place), NONE, place);
            int record = tree.add(PRECORD, tree.append(NONE, field), 1, NONE, place);
            return function(record, name(part, place), place);
        }

        int clause(int pats, int exp, int place) {
            return rule(bracketed(pats, place, true), exp, place);
        }

        /** The binding of a function that takes so many patterns one by one. */
        int clauses(int name, int many, int rules, int place) {
            int firstVariable = NAMES + variables;
            variables = variables + many;
            int cells = NONE;
            int last = NONE;
            for (int k = 0; k < many; k++) {
                last = tree.append(last, name(firstVariable + k, place));
                cells = cells == NONE ? last : cells;
            }
            int body = caseOf(bracketed(cells, place, false), rules, place);
            for (int k = many - 1; k >= 0; k--) {
                body = function(bound(firstVariable + k, place), body, place);
            }
            return tree.add(BIND, bound(name, place), body, 1, place);
        }

        /** An expression that stands as a declaration. */
        int valueOfIt(int exp, int place) {
            int bind = tree.add(BIND, bound(N_IT, place), exp, 0, place);
            return tree.add(VAL, NONE, tree.append(NONE, bind), NONE, place);
        }
    }

    /** Reads types. */
    private static final class TypeReader {
        private final Cursor cursor;
        private final Tree tree;

        TypeReader(Cursor cursor, Tree tree) {
            this.cursor = cursor;
            this.tree = tree;
        }

        private int type() {
            int whole = NONE;
            int unfilled = NONE;
            boolean more = true;
            for (int turn = 0; turn < MOST_TURNS && more; turn++) {
                int start = cursor.at;
                int part = product();
                more = cursor.skip(S_ARROW);
                int node = more ? tree.add(TARROW, part, NONE, NONE, start) : part;
                tree.setB(unfilled, node);
                whole = whole == NONE ? node : whole;
                unfilled = node;
            }
            return whole;
        }

        private int product() {
            int start = cursor.at;
            int first = applied();
            if (!cursor.atStar()) {
                return first;
            }
            int list = tree.append(NONE, tree.add(TFIELD, 1, first, NONE, start));
            int last = list;
            for (int label = 2; label < MOST_TURNS && cursor.atStar(); label++) {
                cursor.step();
                last = tree.append(last, tree.add(TFIELD, label, applied(), NONE, start));
            }
            return tree.add(TRECORD, list, NONE, NONE, start);
        }

        private int applied() {
            int start = cursor.at;
            int type = NONE;
            if (cursor.kind == TYPE_VARIABLE) {
                type = tree.add(TVAR, cursor.value, NONE, NONE, start);
                cursor.step();
            } else if (cursor.atWord(S_BRACE)) {
                type = record();
            } else if (cursor.atWord(S_ROUND)) {
                type = bracketed();
            } else {
                type = constructor(NONE, start);
            }
            for (int turn = 0; turn < MOST_TURNS && cursor.atTycon(); turn++) {
                type = constructor(tree.append(NONE, type), start);
            }
            return type;
        }

        private int constructor(int list, int start) {
            cursor.readTycon();
            return tree.add(TCON, list, cursor.name, cursor.longName, start);
        }

        private int bracketed() {
            int start = cursor.at;
            cursor.enter();
            int list = tree.append(NONE, type());
            int last = list;
            for (int turn = 0; turn < MOST_TURNS && cursor.skip(S_COMMA); turn++) {
                last = tree.append(last, type());
            }
            cursor.close(S_ROUND_END);
            return tree.b(list) == NONE ? tree.a(list) : constructor(list, start);
        }

        private int record() {
            int start = cursor.at;
            cursor.enter();
            int fields = NONE;
            boolean more = !cursor.atWord(S_BRACE_END);
            for (int turn = 0; turn < MOST_TURNS && more; turn++) {
                int place = cursor.at;
                int label = cursor.readLabel(tree, fields);
                cursor.take(S_COLON);
                int field = tree.add(TFIELD, label, type(), NONE, place);
                fields = tree.insert(fields, field);
                more = cursor.skip(S_COMMA);
            }
            cursor.close(S_BRACE_END);
            return tree.add(TRECORD, fields, NONE, NONE, start);
        }
    }

    /** Reads patterns, and the heads of clauses. */
    private static final class PatternReader {
        private final Cursor cursor;
        private final Tree tree;
        private final Operators operators;
        private final Forms forms;
        private final TypeReader types;
        /** The name of the function whose head has been read last. */
        private int headName = NONE;

        PatternReader(Cursor cursor, Tree tree, Operators operators, Forms forms, TypeReader types) {
            this.cursor = cursor;
            this.tree = tree;
            this.operators = operators;
            this.forms = forms;
            this.types = types;
        }

        private int pat() {
            int start = cursor.at;
            int bare = nameToLayer();
            int whole = infix();
            int type = NONE;
            for (int turn = 0; turn < MOST_TURNS && cursor.skip(S_COLON); turn++) {
                bare = turn > 0 ? NONE : bare;
                type = types.type();
                whole = tree.add(PTYPED, whole, type, NONE, start);
            }
            if (!cursor.atWord(W_AS)) {
                return whole;
            }
            if (bare == NONE) {
                cursor.refuse(MISPLACED);
            }
            return layered(bare, type, start);
        }

        /** The name here if it stands alone before : or as, else NONE. */
        private int nameToLayer() {
            int place = cursor.atWord(W_OP) ? cursor.at + 1 : cursor.at;
            boolean alone = cursor.wordAt(place + 1, S_COLON) || cursor.wordAt(place + 1, W_AS);
            return alone && cursor.nameAt(place) ? cursor.valueAt(place) : NONE;
        }

        private int layered(int name, int type, int start) {
            cursor.enterLayer(name);
            int inner = pat();
            cursor.leave();
            return tree.add(PLAYERED, name, type, inner, start);
        }

        private int infix() {
            int base = operators.waiting();
            int start = cursor.at;
            int right = applied();
            int name = cursor.operatorHere(false);
            for (int turn = 0; turn < MOST_TURNS && name != NONE; turn++) {
                int left = operators.settle(base, name, right, start, true);
                operators.put(base, name, left);
                start = cursor.at;
                right = applied();
                name = cursor.operatorHere(false);
            }
            return operators.settle(base, NONE, right, start, true);
        }

        private int applied() {
            if (!cursor.atId()) {
                return atomic();
            }
            int start = cursor.at;
            cursor.readId(true);
            int name = cursor.name;
            int longName = cursor.longName;
            if (!atAtomic()) {
                return tree.add(PNAME, name, longName, NONE, start);
            }
            return tree.add(PCON, name, longName, atomic(), start);
        }

        private boolean atAtomic() {
            switch (cursor.word()) {
                case S_WILD: case S_ROUND: case S_SQUARE: case S_BRACE:
                    return true;
                default:
                    return cursor.atConstant() || cursor.atId();
            }
        }

        private int atomic() {
            int start = cursor.at;
            if (cursor.atConstant()) {
                int constant = cursor.value;
                cursor.step();
                return tree.add(PCONSTANT, constant, NONE, NONE, start);
            }
            switch (cursor.word()) {
                case S_WILD:
                    cursor.step();
                    return tree.add(WILD, NONE, NONE, NONE, start);
                case S_ROUND:
                    return forms.bracketed(pats(S_ROUND_END), start, true);
                case S_SQUARE:
                    return forms.list(pats(S_SQUARE_END), start, true);
                case S_BRACE:
                    return record();
                default:
                    cursor.readId(true);
                    return tree.add(PNAME, cursor.name, cursor.longName, NONE, start);
            }
        }

        /** A list of the patterns up to the closing sign. */
        private int pats(int closing) {
            cursor.enter();
            int first = NONE;
            int last = NONE;
            boolean more = !cursor.atWord(closing);
            for (int turn = 0; turn < MOST_TURNS && more; turn++) {
                last = tree.append(last, pat());
                first = first == NONE ? last : first;
                more = cursor.skip(S_COMMA);
            }
            cursor.close(closing);
            return first;
        }

        private int record() {
            int start = cursor.at;
            cursor.enter();
            int fields = NONE;
            int rest = 0;
            boolean more = !cursor.atWord(S_BRACE_END);
            for (int turn = 0; turn < MOST_TURNS && more; turn++) {
                if (cursor.skip(S_DOTS)) {
                    rest = 1;
                    more = false;
                } else {
                    fields = tree.insert(fields, field(fields));
                    more = cursor.skip(S_COMMA);
                }
            }
            cursor.close(S_BRACE_END);
            return tree.add(PRECORD, fields, rest, NONE, start);
        }

        private int field(int fields) {
            int start = cursor.at;
            int name = cursor.atName() ? cursor.value : NONE;
            int label = cursor.readLabel(tree, fields);
            if (name == NONE || cursor.atWord(S_EQUALS)) {
                cursor.take(S_EQUALS);
                return tree.add(PFIELD, label, pat(), NONE, start);
            }
            int part = tree.add(PNAME, name, NONE, NONE, start);
            int type = NONE;
            if (cursor.skip(S_COLON)) {
                type = types.type();
                part = tree.add(PTYPED, part, type, NONE, start);
            }
            if (cursor.atWord(W_AS)) {
                part = layered(name, type, start);
            }
            return tree.add(PFIELD, label, part, NONE, start);
        }

        /** Reads a clause's head: a list of its patterns; its name is headName then. */
        int head() {
            int start = cursor.at;
            boolean inBrackets = atBracketedHead();
            boolean named = !inBrackets && atNamedHead();
            int first = NONE;
            if (inBrackets) {
                cursor.enter();
            }
            if (named) {
                headName = cursor.readFunction();
            } else {
                int left = atomic();
                headName = readOperator();
                first = tree.append(NONE, tree.pair(PRECORD, left, atomic(), start));
            }
            if (inBrackets) {
                cursor.close(S_ROUND_END);
            }
            if (named && !atAtomic()) {
                cursor.refuse(MISPLACED);
            }
            int last = first;
            boolean more = (named || inBrackets) && atAtomic();
            for (int turn = 0; turn < MOST_TURNS && more; turn++) {
                last = tree.append(last, atomic());
                first = first == NONE ? last : first;
                more = atAtomic();
            }
            return first;
        }

        private int readOperator() {
            int name = cursor.operatorHere(false);
            if (name == NONE) {
                cursor.refuse(MISPLACED);
            } else {
                cursor.step();
            }
            return name;
        }

        private boolean atNamedHead() {
            return cursor.atWord(W_OP) || cursor.atPlainName() && !cursor.operatorAt(cursor.at + 1);
        }

        private boolean atBracketedHead() {
            if (!cursor.atWord(S_ROUND)) {
                return false;
            }
            int operator = behindAtomic(cursor.at + 1);
            if (!cursor.operatorAt(operator)) {
                return false;
            }
            int closing = behindAtomic(operator + 1);
            return cursor.wordAt(closing, S_ROUND_END) && !cursor.operatorAt(closing + 1);
        }

        /**
         * The place behind the atomic pattern there; NONE without one. What stands in brackets is
         * not looked at: a fault in it is told when it is read, whichever form the head has.
         */
        private int behindAtomic(int place) {
            int kind = cursor.kindAt(place);
            if (cursor.nameAt(place)) {
                return cursor.operatorAt(place) ? NONE : place + 1;
            }
            if (kind >= LONG_NAME && kind <= STRING || cursor.wordAt(place, S_WILD)) {
                return place + 1;
            }
            if (cursor.wordAt(place, W_OP)) {
                boolean named = cursor.nameAt(place + 1) || cursor.wordAt(place + 1, S_EQUALS);
                return named ? place + 2 : NONE;
            }
            return behindBrackets(place);
        }

        private int behindBrackets(int place) {
            int open = 0;
            for (int p = place; p < cursor.count; p++) {
                int word = cursor.kindAt(p) == WORD ? cursor.valueAt(p) : 0;
                if (word == S_ROUND || word == S_SQUARE || word == S_BRACE) {
                    open++;
                } else if (word == S_ROUND_END || word == S_SQUARE_END || word == S_BRACE_END) {
                    open--;
                }
                if (open <= 0) {
                    return p == place ? NONE : p + 1;
                }
            }
            return NONE;
        }
    }

    /** Reads the declarations in which neither expressions nor declarations stand. */
    private static final class BindReader {
        private final Cursor cursor;
        private final Tree tree;
        private final Fixities fixities;
        private final TypeReader types;

        BindReader(Cursor cursor, Tree tree, Fixities fixities, TypeReader types) {
            this.cursor = cursor;
            this.tree = tree;
            this.fixities = fixities;
            this.types = types;
        }

        /** The type variables before a value: a bracket there may also begin a pattern. */
        int valueVariables() {
            boolean pattern = cursor.atWord(S_ROUND)
                && cursor.kindAt(cursor.at + 1) != TYPE_VARIABLE;
            return pattern ? NONE : variables();
        }

        int variables() {
            boolean inBrackets = cursor.skip(S_ROUND);
            int first = NONE;
            int last = NONE;
            boolean more = inBrackets || cursor.kind == TYPE_VARIABLE;
            for (int turn = 0; turn < MOST_TURNS && more; turn++) {
                if (cursor.kind == TYPE_VARIABLE) {
                    int variable = tree.add(TVAR, cursor.value, NONE, NONE, cursor.at);
                    last = tree.append(last, variable);
                    first = first == NONE ? last : first;
                    cursor.step();
                } else {
                    cursor.refuse(MISPLACED);
                }
                more = inBrackets && cursor.skip(S_COMMA);
            }
            if (inBrackets) {
                cursor.take(S_ROUND_END);
            }
            return first;
        }

        int typeDec() {
            int start = cursor.at;
            cursor.step();
            return tree.add(TYPE, typbinds(), NONE, NONE, start);
        }

        private int typbinds() {
            int first = NONE;
            int last = NONE;
            boolean more = true;
            for (int turn = 0; turn < MOST_TURNS && more; turn++) {
                int start = cursor.at;
                int variables = variables();
                int name = cursor.readShortTycon();
                cursor.take(S_EQUALS);
                last = tree.append(last, tree.add(TYPBIND, variables, name, types.type(), start));
                first = first == NONE ? last : first;
                more = cursor.skip(W_AND);
            }
            return first;
        }

        int withtype() {
            return cursor.skip(W_WITHTYPE) ? typbinds() : NONE;
        }

        int datbinds() {
            int first = NONE;
            int last = NONE;
            boolean more = true;
            for (int turn = 0; turn < MOST_TURNS && more; turn++) {
                int start = cursor.at;
                int variables = variables();
                int name = cursor.readShortTycon();
                cursor.take(S_EQUALS);
                last = tree.append(last, tree.add(DATBIND, variables, name, conbinds(), start));
                first = first == NONE ? last : first;
                more = cursor.skip(W_AND);
            }
            return first;
        }

        private int conbinds() {
            int first = NONE;
            int last = NONE;
            boolean more = true;
            for (int turn = 0; turn < MOST_TURNS && more; turn++) {
                int start = cursor.at;
                int name = cursor.readConstructor();
                int type = cursor.skip(W_OF) ? types.type() : NONE;
                last = tree.append(last, tree.add(CONBIND, name, type, NONE, start));
                first = first == NONE ? last : first;
                more = cursor.skip(S_BAR);
            }
            return first;
        }

        boolean atReplication() {
            return cursor.atShortTycon() && cursor.wordAt(cursor.at + 1, S_EQUALS)
                && cursor.wordAt(cursor.at + 2, W_DATATYPE);
        }

        int replication(int start) {
            int name = cursor.readShortTycon();
            cursor.take(S_EQUALS);
            cursor.take(W_DATATYPE);
            cursor.readTycon();
            return tree.add(REPLICATE, name, cursor.name, cursor.longName, start);
        }

        int exceptionDec() {
            int begin = cursor.at;
            cursor.step();
            int first = NONE;
            int last = NONE;
            boolean more = true;
            for (int turn = 0; turn < MOST_TURNS && more; turn++) {
                int start = cursor.at;
                int name = cursor.readConstructor();
                int bind = NONE;
                if (cursor.skip(S_EQUALS)) {
                    cursor.readId(false);
                    bind = tree.add(EXCOPY, name, cursor.name, cursor.longName, start);
                } else {
                    int type = cursor.skip(W_OF) ? types.type() : NONE;
                    bind = tree.add(EXBIND, name, type, NONE, start);
                }
                last = tree.append(last, bind);
                first = first == NONE ? last : first;
                more = cursor.skip(W_AND);
            }
            return tree.add(EXCEPTION, first, NONE, NONE, begin);
        }

        int openDec() {
            int start = cursor.at;
            cursor.step();
            int first = NONE;
            int last = NONE;
            if (!atStructure()) {
                cursor.refuse(MISPLACED);
            }
            for (int turn = 0; turn < MOST_TURNS && atStructure(); turn++) {
                int place = cursor.at;
                cursor.readTycon();
                last = tree.append(last, tree.add(NAME, cursor.name, cursor.longName, NONE, place));
                first = first == NONE ? last : first;
            }
            return tree.add(OPEN, first, NONE, NONE, start);
        }

        private boolean atStructure() {
            return cursor.kind == ALPHANUMERIC || cursor.kind == LONG_NAME;
        }

        void fixityDec() {
            int word = cursor.word();
            cursor.step();
            int precedence = 0;
            boolean digit = cursor.kind == INTEGER && cursor.number >= 0 && cursor.number <= 9;
            if (word != W_NONFIX && digit) {
                precedence = cursor.number;
                cursor.step();
            }
            int fixity = word == W_NONFIX ? NONE : 2 * precedence + (word == W_INFIXR ? 1 : 0);
            if (!cursor.atName()) {
                cursor.refuse(MISPLACED);
            }
            for (int turn = 0; turn < MOST_TURNS && cursor.atName(); turn++) {
                fixities.change(cursor.value, fixity);
                cursor.step();
            }
        }
    }

    /** Reads expressions, declarations and programs. */
    private static final class Reader {
        private final Cursor cursor;
        private final Tree tree;
        private final Fixities fixities;
        private final Operators operators;
        private final Forms forms;
        private final TypeReader types;
        private final PatternReader patterns;
        private final BindReader binds;

        Reader(Cursor cursor, Tree tree, Fixities fixities, Operators operators, Forms forms) {
            this.cursor = cursor;
            this.tree = tree;
            this.fixities = fixities;
            this.operators = operators;
            this.forms = forms;
            types = new TypeReader(cursor, tree);
            patterns = new PatternReader(cursor, tree, operators, forms, types);
            binds = new BindReader(cursor, tree, fixities, types);
        }

        private int programExp() {
            int start = cursor.at;
            int exp = exp();
            if (cursor.kind != NONE && !cursor.atWord(S_SEMICOLON)) {
                cursor.refuse(MISPLACED);
            }
            return forms.valueOfIt(exp, start);
        }

        private int exp() {
            int start = cursor.at;
            if (atForm()) {
                return form();
            }
            int andStart = start;
            int ands = typed();
            int ors = NONE;
            boolean more = true;
            for (int turn = 0; turn < MOST_TURNS && more; turn++) {
                if (cursor.skip(W_ANDALSO)) {
                    ands = forms.andAlso(ands, atForm() ? form() : typed(), andStart);
                } else if (cursor.skip(W_ORELSE)) {
                    ors = ors == NONE ? ands : forms.orElse(ors, ands, start);
                    andStart = cursor.at;
                    ands = atForm() ? form() : typed();
                } else {
                    more = false;
                }
            }
            int whole = ors == NONE ? ands : forms.orElse(ors, ands, start);
            for (int turn = 0; turn < MOST_TURNS && cursor.atWord(W_HANDLE); turn++) {
                cursor.enter();
                whole = tree.add(HANDLE, whole, match(), NONE, start);
                cursor.leave();
            }
            return whole;
        }

        private boolean atForm() {
            switch (cursor.word()) {
                case W_RAISE: case W_IF: case W_WHILE: case W_CASE: case W_FN:
                    return true;
                default:
                    return false;
            }
        }

        private int form() {
            int start = cursor.at;
            int word = cursor.word();
            cursor.enter();
            int whole = word == W_FN ? tree.add(FN, match(), NONE, NONE, start) : formOf(word, start);
            cursor.leave();
            return whole;
        }

        private int formOf(int word, int start) {
            int first = exp();
            switch (word) {
                case W_RAISE:
                    return tree.add(RAISE, first, NONE, NONE, start);
                case W_IF:
                    cursor.take(W_THEN);
                    int yes = exp();
                    cursor.take(W_ELSE);
                    return forms.ifElse(first, yes, exp(), start);
                case W_WHILE:
                    cursor.take(W_DO);
                    return forms.whileDo(first, exp(), start);
                default:
                    cursor.take(W_OF);
                    return forms.caseOf(first, match(), start);
            }
        }

        private int match() {
            int first = NONE;
            int last = NONE;
            boolean more = true;
            for (int turn = 0; turn < MOST_TURNS && more; turn++) {
                int start = cursor.at;
                int pat = patterns.pat();
                cursor.take(S_RULE);
                last = tree.append(last, forms.rule(pat, exp(), start));
                first = first == NONE ? last : first;
                more = cursor.skip(S_BAR);
            }
            return first;
        }

        private int typed() {
            int base = operators.waiting();
            int begin = cursor.at;
            int start = begin;
            int right = atomic();
            boolean more = true;
            for (int turn = 0; turn < MOST_TURNS && more; turn++) {
                int name = cursor.operatorHere(true);
                if (atAtomic()) {
                    right = tree.add(APPLY, right, atomic(), NONE, start);
                } else if (name != NONE) {
                    int left = operators.settle(base, name, right, start, false);
                    operators.put(base, name, left);
                    start = cursor.at;
                    right = atomic();
                } else {
                    more = false;
                }
            }
            int whole = operators.settle(base, NONE, right, start, false);
            for (int turn = 0; turn < MOST_TURNS && cursor.skip(S_COLON); turn++) {
                whole = tree.add(TYPED, whole, types.type(), NONE, begin);
            }
            return whole;
        }

        private boolean atAtomic() {
            switch (cursor.word()) {
                case S_BRACE: case S_HASH: case S_ROUND: case S_SQUARE: case W_LET:
                    return true;
                default:
                    return cursor.atConstant() || cursor.atId();
            }
        }

        private int atomic() {
            int start = cursor.at;
            if (cursor.atConstant()) {
                int constant = cursor.value;
                cursor.step();
                return tree.add(CONSTANT, constant, NONE, NONE, start);
            }
            switch (cursor.word()) {
                case S_BRACE:
                    return record();
                case S_HASH:
                    cursor.step();
                    return forms.selector(cursor.readLabel(tree, NONE), start);
                case S_ROUND:
                    return bracketed();
                case S_SQUARE:
                    return list();
                case W_LET:
                    return let();
                default:
                    cursor.readId(false);
                    return tree.add(NAME, cursor.name, cursor.longName, NONE, start);
            }
        }

        private int record() {
            int start = cursor.at;
            cursor.enter();
            int fields = NONE;
            boolean more = !cursor.atWord(S_BRACE_END);
            for (int turn = 0; turn < MOST_TURNS && more; turn++) {
                int place = cursor.at;
                int label = cursor.readLabel(tree, fields);
                cursor.take(S_EQUALS);
                int field = tree.add(FIELD, label, exp(), NONE, place);
                fields = tree.insert(fields, field);
                more = cursor.skip(S_COMMA);
            }
            cursor.close(S_BRACE_END);
            return tree.add(RECORD, fields, NONE, NONE, start);
        }

        private int bracketed() {
            int start = cursor.at;
            cursor.enter();
            if (cursor.atWord(S_ROUND_END)) {
                cursor.close(S_ROUND_END);
                return forms.unit(start);
            }
            int first = tree.append(NONE, exp());
            boolean sequence = cursor.atWord(S_SEMICOLON);
            more(first, sequence ? S_SEMICOLON : S_COMMA);
            cursor.close(S_ROUND_END);
            return sequence ? forms.sequence(first, start) : forms.bracketed(first, start, false);
        }

        private int list() {
            int start = cursor.at;
            cursor.enter();
            int first = NONE;
            if (!cursor.atWord(S_SQUARE_END)) {
                first = tree.append(NONE, exp());
                more(first, S_COMMA);
            }
            cursor.close(S_SQUARE_END);
            return forms.list(first, start, false);
        }

        /** Reads the expressions that follow the one in the first cell of a list. */
        private void more(int first, int separator) {
            int last = first;
            for (int turn = 0; turn < MOST_TURNS && cursor.skip(separator); turn++) {
                last = tree.append(last, exp());
            }
        }

        private int let() {
            int start = cursor.at;
            int mark = fixities.mark();
            cursor.enter();
            int decs = decs(false);
            cursor.take(W_IN);
            int first = tree.append(NONE, exp());
            more(first, S_SEMICOLON);
            cursor.close(W_END);
            fixities.back(mark);
            return tree.add(LET, decs, forms.sequence(first, start), NONE, start);
        }

        /** Declarations, or a whole program: there expressions may stand too, and the end must. */
        private int decs(boolean program) {
            int start = cursor.at;
            int first = NONE;
            int last = NONE;
            boolean expMayStand = program;
            boolean more = true;
            for (int turn = 0; turn < MOST_TURNS && more; turn++) {
                int node = NONE;
                if (cursor.skip(S_SEMICOLON)) {
                    expMayStand = program;
                } else if (atDec()) {
                    node = dec();
                    expMayStand = false;
                } else if (expMayStand && cursor.kind != NONE) {
                    node = programExp();
                } else {
                    more = false;
                }
                last = node == NONE ? last : tree.append(last, node);
                first = first == NONE ? last : first;
            }
            if (program && cursor.kind != NONE) {
                cursor.refuse(MISPLACED);
            }
            return tree.add(DECS, first, NONE, NONE, start);
        }

        private boolean atDec() {
            switch (cursor.word()) {
                case W_VAL: case W_FUN: case W_TYPE: case W_DATATYPE: case W_ABSTYPE:
                case W_EXCEPTION: case W_LOCAL: case W_OPEN: case W_INFIX: case W_INFIXR:
                case W_NONFIX:
                    return true;
                default:
                    return false;
            }
        }

        /** Reads a declaration; NONE when it leaves nothing. */
        private int dec() {
            switch (cursor.word()) {
                case W_VAL:
                    return valDec();
                case W_FUN:
                    return funDec();
                case W_ABSTYPE:
                    return datatypeDec(true);
                case W_LOCAL:
                    return localDec();
                case W_TYPE:
                    return binds.typeDec();
                case W_DATATYPE:
                    return datatypeDec(false);
                case W_EXCEPTION:
                    return binds.exceptionDec();
                case W_OPEN:
                    return binds.openDec();
                default:
                    binds.fixityDec();
                    return NONE;
            }
        }

        private int valDec() {
            int begin = cursor.at;
            cursor.step();
            int variables = binds.valueVariables();
            int first = NONE;
            int last = NONE;
            int recursive = 0;
            boolean more = true;
            for (int turn = 0; turn < MOST_TURNS && more; turn++) {
                for (int k = 0; k < MOST_TURNS && cursor.skip(W_REC); k++) {
                    recursive = 1;
                }
                int start = cursor.at;
                int pat = patterns.pat();
                cursor.take(S_EQUALS);
                last = tree.append(last, tree.add(BIND, pat, exp(), recursive, start));
                first = first == NONE ? last : first;
                more = cursor.skip(W_AND);
            }
            return tree.add(VAL, variables, first, NONE, begin);
        }

        private int funDec() {
            int begin = cursor.at;
            cursor.step();
            int variables = binds.valueVariables();
            int firstBind = NONE;
            int lastBind = NONE;
            int rules = NONE;
            int lastRule = NONE;
            int name = NONE;
            int many = 0;
            int clausesStart = cursor.at;
            boolean more = true;
            for (int turn = 0; turn < MOST_TURNS && more; turn++) {
                int start = cursor.at;
                int pats = patterns.head();
                int type = cursor.skip(S_COLON) ? types.type() : NONE;
                if (rules == NONE) {
                    name = patterns.headName;
                    many = tree.heads(pats);
                    clausesStart = start;
                }
                boolean agrees = patterns.headName == name && tree.heads(pats) == many;
                cursor.takeClauseEquals(patterns.headName, agrees);
                int exp = exp();
                if (type != NONE) {
                    exp = tree.add(TYPED, exp, type, NONE, tree.place(exp));
                }
                lastRule = tree.append(lastRule, forms.clause(pats, exp, start));
                rules = rules == NONE ? lastRule : rules;
                more = cursor.skip(S_BAR);
                if (!more) {
                    int bind = forms.clauses(name, many, rules, clausesStart);
                    lastBind = tree.append(lastBind, bind);
                    firstBind = firstBind == NONE ? lastBind : firstBind;
                    rules = NONE;
                    lastRule = NONE;
                    more = cursor.skip(W_AND);
                }
            }
            return tree.add(VAL, variables, firstBind, NONE, begin);
        }

        /** A datatype declaration, or one that hides its constructors behind further ones. */
        private int datatypeDec(boolean hiding) {
            int start = cursor.at;
            if (hiding) {
                cursor.enter();
            } else {
                cursor.step();
            }
            if (!hiding && binds.atReplication()) {
                return binds.replication(start);
            }
            int datbinds = binds.datbinds();
            int typbinds = binds.withtype();
            if (!hiding) {
                return tree.add(DATATYPE, datbinds, typbinds, NONE, start);
            }
            cursor.take(W_WITH);
            int decs = decs(false);
            cursor.close(W_END);
            return tree.add(ABSTYPE, datbinds, typbinds, decs, start);
        }

        private int localDec() {
            int start = cursor.at;
            int outer = fixities.mark();
            cursor.enter();
            int hidden = decs(false);
            cursor.take(W_IN);
            int inner = fixities.mark();
            int shown = decs(false);
            cursor.close(W_END);
            fixities.leaveLocal(outer, inner);
            return tree.add(LOCAL, hidden, shown, NONE, start);
        }
    }

    /** Copies a tree so that its nodes and fresh variables are numbered in preorder. */
    private static final class Numbering {
        private final Tree from;
        private final Tree to;
        private final Row nodes = new Row();
        private final Row parents = new Row();
        private final Row fields = new Row();
        /** The number of each fresh variable, by the number it was read with. */
        private final Row order = new Row();
        private int variables = 0;

        Numbering(Tree from, Tree to) {
            this.from = from;
            this.to = to;
        }

        void number(int root) {
            order.cut(0);
            variables = 0;
            push(root, NONE, 0);
            for (int turn = 0; turn < MOST_CELLS && nodes.size > 0; turn++) {
                int top = nodes.size - 1;
                int node = nodes.get(top);
                int copy = copy(node);
                settle(parents.get(top), fields.get(top), copy);
                nodes.cut(top);
                parents.cut(top);
                fields.cut(top);
                int kids = Tree.kids(from.kind(node));
                push((kids & IN_C) != 0 ? from.c(node) : NONE, copy, IN_C);
                push((kids & IN_B) != 0 ? from.b(node) : NONE, copy, IN_B);
                push((kids & IN_A) != 0 ? from.a(node) : NONE, copy, IN_A);
            }
        }

        private void push(int node, int parent, int field) {
            if (node != NONE) {
                nodes.push(node);
                parents.push(parent);
                fields.push(field);
            }
        }

        private int copy(int node) {
            int kind = from.kind(node);
            int a = from.a(node);
            if ((kind == NAME || kind == PNAME) && a >= NAMES) {
                a = NAMES + inOrder(a - NAMES);
            }
            return to.add(kind, a, from.b(node), from.c(node), from.place(node));
        }

        private void settle(int parent, int field, int copy) {
            if (field == IN_A) {
                to.setA(parent, copy);
            } else if (field == IN_B) {
                to.setB(parent, copy);
            } else if (field == IN_C) {
                to.setC(parent, copy);
            }
        }

        private int inOrder(int variable) {
            for (int k = order.size; k <= variable; k++) {
                order.push(NONE);
            }
            if (order.get(variable) == NONE) {
                order.set(variable, variables);
                variables++;
            }
            return order.get(variable);
        }
    }
}
