/** Promises 1 to 3 and 5 to 8: new objects, tokens, clear, fault, retreat, fixity. */
public final class StateTest {
    private static final Check CHECK = new Check();
    private static final int[] FIRST = {
        -1, -1, -1, 11, -1, -1, 8, 14, 12, 12, 14, 14, 14, 12, 11, 8, 8, 8, 8, 8, 6, 6, 0, -1
    };

    public static void main(String[] args) {
        newObject();
        tokens();
        fullOfTokens();
        clearing();
        parsing();
        faults();
        retreating();
        retreatAcrossFaults();
        retreatFromTheLastAlone();
        fixityOfNoName();
        CHECK.end("StateTest");
    }

    private static void newObject() {
        CoreSyntax x = new CoreSyntax();
        CHECK.due("tokens of a new object", x.tokens(), 0);
        CHECK.due("nodes of a new object", x.nodes(), 0);
        CHECK.due("fresh of a new object", x.fresh(), 0);
        CHECK.due("fault kind of a new object", x.fault(0), 0);
        CHECK.due("fault place of a new object", x.fault(1), -1);
        CHECK.due("retreat of a new object", x.retreat(), false);
        CHECK.due("node 0 of a new object", x.node(0, 0), -1);
        CHECK.due("length in a new object", x.length(0), 0);
        CHECK.due("item in a new object", x.item(0, 0), -1);
        CHECK.due("behind in a new object", x.behind(0), -1);
        CHECK.due("same in a new object", x.same(0, 0), false);
        CHECK.due("clear of a new object", x.clear(), 0);
        firstFixities(x, "of a new object");
    }

    private static void firstFixities(CoreSyntax x, String when) {
        for (int name = 0; name < FIRST.length; name++) {
            CHECK.due("fixity " + name + " " + when, x.fixity(name), FIRST[name]);
        }
    }

    private static void tokens() {
        accept(1, 1, -1);
        accept(1, 58, -1);
        refuse(1, 0, -1);
        refuse(1, 59, -1);
        refuse(1, -1, -1);
        refuse(1, 29, 0);
        for (int kind = 2; kind <= 4; kind++) {
            accept(kind, 0, -1);
            accept(kind, 8191, -1);
            refuse(kind, 8192, -1);
            refuse(kind, -1, -1);
            refuse(kind, 5, 5);
            refuse(kind, 5, -2);
        }
        for (int kind = 5; kind <= 9; kind++) {
            accept(kind, 0, -1);
            accept(kind, 32767, -1);
            refuse(kind, 32768, -1);
            refuse(kind, -1, -1);
            refuse(kind, Integer.MAX_VALUE, -1);
            refuse(kind, Integer.MIN_VALUE, -1);
            refuse(kind, 1, -2);
            refuse(kind, 1, 10000);
            if (kind == 6) {
                accept(kind, 1, 0);
                accept(kind, 1, 9999);
            } else {
                refuse(kind, 1, 0);
                refuse(kind, 1, 1);
            }
        }
        refuse(0, 1, -1);
        refuse(10, 1, -1);
        refuse(-1, 1, -1);
        refuse(Integer.MIN_VALUE, 1, -1);
        refuse(Integer.MAX_VALUE, 1, -1);
    }

    private static void accept(int kind, int value, int number) {
        CoreSyntax x = new CoreSyntax();
        x.token(2, 40, -1);
        CHECK.due("token " + kind + " " + value + " " + number, x.token(kind, value, number), 2);
        CHECK.due("tokens then", x.tokens(), 2);
    }

    private static void refuse(int kind, int value, int number) {
        CoreSyntax x = new CoreSyntax();
        x.token(2, 40, -1);
        CHECK.due("token " + kind + " " + value + " " + number, x.token(kind, value, number), -1);
        CHECK.due("tokens then", x.tokens(), 1);
    }

    private static void fullOfTokens() {
        CoreSyntax x = new CoreSyntax();
        int wrong = 0;
        for (int k = 1; k <= 3000; k++) {
            wrong += x.token(1, 41, -1) == k ? 0 : 1;
        }
        CHECK.due("counts of 3000 tokens that are wrong", wrong, 0);
        CHECK.due("token 3001", x.token(1, 41, -1), -2);
        CHECK.due("token 3001 that is none", x.token(1, 59, -1), -1);
        CHECK.due("tokens when full", x.tokens(), 3000);
        CHECK.due("parse when full", x.parse(), 1);
        CHECK.due("tokens behind parse", x.tokens(), 0);
        CHECK.due("a token then", x.token(1, 41, -1), 1);
    }

    private static void clearing() {
        CoreSyntax x = new CoreSyntax();
        Text text = new Text();
        text.give(x, "infix 5 a ; 1");
        int nodes = x.parse();
        text.give(x, "val ( (");
        CHECK.due("clear", x.clear(), 3);
        CHECK.due("tokens behind clear", x.tokens(), 0);
        CHECK.due("clear again", x.clear(), 0);
        CHECK.due("nodes behind clear", x.nodes(), nodes);
        CHECK.due("node behind clear", x.node(0, 0), 84);
        CHECK.due("fixity behind clear", x.fixity(text.name("a")), 10);
        CHECK.due("retreat behind clear", x.retreat(), true);
        CHECK.due("the first token behind clear", x.token(2, 1, -1), 1);
    }

    private static void parsing() {
        CoreSyntax x = new CoreSyntax();
        CHECK.due("parse of nothing", x.parse(), 1);
        CHECK.due("kind of its root", x.node(0, 0), 84);
        CHECK.due("list of its root", x.node(0, 1), -1);
        CHECK.due("place of its root", x.node(0, 4), 0);
        Text text = new Text();
        text.give(x, "# 1");
        CHECK.due("parse", x.parse(), 14);
        CHECK.due("nodes", x.nodes(), 14);
        CHECK.due("fresh", x.fresh(), 1);
        text.give(x, "infix 5 a infix 5 + ; val");
        CHECK.due("parse with a fault", x.parse(), -1);
        CHECK.due("tokens behind a fault", x.tokens(), 0);
        CHECK.due("nodes behind a fault", x.nodes(), 0);
        CHECK.due("node behind a fault", x.node(0, 0), -1);
        CHECK.due("fresh behind a fault", x.fresh(), 0);
        CHECK.due("same behind a fault", x.same(0, 0), false);
        CHECK.due("a's fixity behind a fault", x.fixity(text.name("a")), -1);
        CHECK.due("+'s fixity behind a fault", x.fixity(8), 12);
        text.give(x, "infix 5 a infix 5 + nonfix * ; val x = ( 1 a 2");
        x.parse();
        firstFixities(x, "behind a fault");
    }

    private static void faults() {
        CoreSyntax x = new CoreSyntax();
        Text text = new Text();
        text.give(x, "val x = )");
        x.parse();
        CHECK.due("fault kind", x.fault(0), 1);
        CHECK.due("fault place", x.fault(1), 3);
        CHECK.due("fault 2", x.fault(2), -1);
        CHECK.due("fault -1", x.fault(-1), -1);
        CHECK.due("fault of much", x.fault(Integer.MAX_VALUE), -1);
        x.token(1, 41, -1);
        x.clear();
        x.retreat();
        CHECK.due("fault kind stays", x.fault(0), 1);
        CHECK.due("fault place stays", x.fault(1), 3);
        text.give(x, "val x = 1");
        x.parse();
        CHECK.due("no fault kind", x.fault(0), 0);
        CHECK.due("no fault place", x.fault(1), -1);
        CHECK.due("no fault 2", x.fault(2), -1);
    }

    private static void retreating() {
        CoreSyntax x = new CoreSyntax();
        Text text = new Text();
        text.give(x, "infix 5 a infixr 4 a nonfix + nonfix a infix a + 1");
        x.parse();
        CHECK.due("a fault", x.fault(0), 1);
        text.give(x, "infix 5 a infixr 4 a nonfix + infix 9 b ; # 1");
        int nodes = x.parse();
        CHECK.due("a", x.fixity(text.name("a")), 9);
        CHECK.due("+", x.fixity(8), -1);
        CHECK.due("b", x.fixity(text.name("b")), 18);
        CHECK.due("retreat", x.retreat(), true);
        firstFixities(x, "behind retreat");
        CHECK.due("a then", x.fixity(text.name("a")), -1);
        CHECK.due("b then", x.fixity(text.name("b")), -1);
        CHECK.due("the tree stays", x.nodes(), nodes);
        CHECK.due("fresh stays", x.fresh(), 1);
        CHECK.due("retreat again", x.retreat(), false);
        CHECK.due("a parse that changes none", x.parse(), 1);
        CHECK.due("retreat from it", x.retreat(), true);
        CHECK.due("and again", x.retreat(), false);
    }

    private static void retreatAcrossFaults() {
        CoreSyntax x = new CoreSyntax();
        Text text = new Text();
        int a = text.name("a");
        text.give(x, "infix 5 a");
        x.parse();
        text.give(x, "infix 6 a");
        x.parse();
        text.give(x, "infix 7 a )");
        CHECK.due("a fault between", x.parse(), -1);
        CHECK.due("the fixity is as before it", x.fixity(a), 12);
        CHECK.due("retreat across it", x.retreat(), true);
        CHECK.due("only the last good parse is gone", x.fixity(a), 10);
        text.give(x, "infix 7 a )");
        x.parse();
        CHECK.due("retreat is used up", x.retreat(), false);
        CHECK.due("nothing changes", x.fixity(a), 10);
        text.give(x, "let infix 8 a in 1 end ; local infix 3 b in infix 2 c end");
        x.parse();
        CHECK.due("local changes are gone", x.fixity(text.name("b")), -1);
        CHECK.due("a is as it was", x.fixity(a), 10);
        CHECK.due("c stays", x.fixity(text.name("c")), 4);
        CHECK.due("retreat from both", x.retreat(), true);
        CHECK.due("c is gone", x.fixity(text.name("c")), -1);
        CHECK.due("a stays", x.fixity(a), 10);
    }

    private static void retreatFromTheLastAlone() {
        CoreSyntax x = new CoreSyntax();
        Text text = new Text();
        text.give(x, "infix 5 a b c");
        x.parse();
        text.give(x, "infix 6 d nonfix b");
        x.parse();
        CHECK.due("retreat", x.retreat(), true);
        CHECK.due("a of the parse before", x.fixity(text.name("a")), 10);
        CHECK.due("b of the parse before", x.fixity(text.name("b")), 10);
        CHECK.due("c of the parse before", x.fixity(text.name("c")), 10);
        CHECK.due("d of the last parse", x.fixity(text.name("d")), -1);
        x.parse();
        CHECK.due("retreat from a parse of nothing", x.retreat(), true);
        CHECK.due("a stays", x.fixity(text.name("a")), 10);
    }

    private static void fixityOfNoName() {
        CoreSyntax x = new CoreSyntax();
        CHECK.due("fixity -1", x.fixity(-1), -1);
        CHECK.due("fixity 8191", x.fixity(8191), -1);
        CHECK.due("fixity 8192", x.fixity(8192), -1);
        CHECK.due("fixity of the least", x.fixity(Integer.MIN_VALUE), -1);
        CHECK.due("fixity of the most", x.fixity(Integer.MAX_VALUE), -1);
        x.token(1, 17, -1);
        x.token(6, 77, 9);
        x.token(2, 8191, -1);
        x.parse();
        CHECK.due("the last name", x.fixity(8191), 19);
    }
}
