/** The sentences on how much an object bears: 512 calls, 3000 tokens, 32768 nodes; and calls with any arguments. */
public final class CallsEdgeTest {
    private static final Check CHECK = new Check();

    public static void main(String[] args) {
        the512thCall();
        textOf511Tokens();
        parses512Times();
        longestTexts();
        mostNodesOfAFunction();
        mostNodesOfLoops();
        longLists();
        deepestTexts();
        anyArguments();
        CHECK.end("CallsEdgeTest");
    }

    /** An object that has been called that often, with a tree and two tokens. */
    private static CoreSyntax used(int calls) {
        CoreSyntax x = new CoreSyntax();
        int[][] tokens = {{1, 17, -1}, {6, 9, 9}, {2, 40, -1}, {1, 41, -1}, {1, 48, -1}, {2, 41, -1}};
        for (int[] token : tokens) {
            x.token(token[0], token[1], token[2]);
        }
        x.parse();
        x.token(1, 29, -1);
        x.token(1, 43, -1);
        for (int call = 9; call < calls; call++) {
            x.fixity(call);
        }
        return x;
    }

    private static void the512thCall() {
        CHECK.sentence("An object is used for at most 512 calls after it has been made");
        for (int before : new int[] {9, 510, 511}) {
            String when = " as call " + (before + 1);
            CHECK.due("token" + when, used(before).token(1, 45, -1), 3);
            CHECK.due("a token that is none" + when, used(before).token(1, 59, -1), CoreSyntax.NONE);
            CHECK.due("clear" + when, used(before).clear(), 2);
            CHECK.due("parse" + when, used(before).parse(), CoreSyntax.NONE);
            CHECK.due("fault" + when, used(before).fault(0), 0);
            CHECK.due("retreat" + when, used(before).retreat(), true);
            CHECK.due("fixity" + when, used(before).fixity(40), 19);
            CHECK.due("tokens" + when, used(before).tokens(), 2);
            CHECK.due("nodes" + when, used(before).nodes(), 14);
            CHECK.due("node" + when, used(before).node(0, 0), 84);
            CHECK.due("length" + when, used(before).length(1), 1);
            CHECK.due("item" + when, used(before).item(1, 0), 2);
            CHECK.due("behind" + when, used(before).behind(0), 14);
            CHECK.due("same" + when, used(before).same(0, 0), true);
            CHECK.due("fresh" + when, used(before).fresh(), 1);
        }
    }

    private static void textOf511Tokens() {
        CHECK.sentence("An object is used for at most 512 calls: 511 tokens and their parse");
        CoreSyntax x = new CoreSyntax();
        for (int k = 1; k <= 511; k++) {
            CHECK.due("token " + k, x.token(k % 2 == 0 ? 1 : 6, k % 2 == 0 ? 41 : k, -1), k);
        }
        CHECK.due("parse of 256 expressions", x.parse(), 1 + 6 * 256);
        CHECK.due("the last one's value", x.node(x.nodes() - 1, 1), 511);
        CHECK.due("the last one's place", x.node(x.nodes() - 1, 4), 510);
    }

    private static void parses512Times() {
        CHECK.sentence("An object is used for at most 512 calls: each parse, retreat and clear of them answers");
        CoreSyntax x = new CoreSyntax();
        for (int call = 0; call < 512; call += 2) {
            CHECK.due("parse, call " + call, x.parse(), 1);
            CHECK.due("retreat, call " + (call + 1), x.retreat(), true);
        }
        CoreSyntax y = new CoreSyntax();
        for (int call = 0; call < 512; call += 4) {
            y.token(1, 16, -1);
            y.token(2, call, -1);
            CHECK.due("parse, call " + call, y.parse(), 1);
            CHECK.due("fixity, call " + call, y.fixity(call), 0);
        }
    }

    private static CoreSyntax of(String text) {
        CoreSyntax x = new CoreSyntax();
        new Text().give(x, text);
        x.parse();
        return x;
    }

    private static void longestTexts() {
        CHECK.sentence("All memory is the reader's own: tokens at most 3000");
        for (int many : new int[] {2998, 3000}) {
            CoreSyntax x = of("1 ; ".repeat(many / 2));
            CHECK.due("nodes of " + many, x.nodes(), 1 + 3 * many);
            CHECK.due("the last place", x.node(x.nodes() - 1, 4), many - 2);
        }
        CoreSyntax odd = of("1 ; ".repeat(1499) + "2");
        CHECK.due("nodes of 2999", odd.nodes(), 1 + 6 * 1500);
        CHECK.due("the last place of 2999", odd.node(odd.nodes() - 1, 4), 2998);
        CoreSyntax fault = of("1 ; ".repeat(1499) + "2 )");
        CHECK.due("a fault at the last of 3000", fault.fault(0) + " at " + fault.fault(1), "1 at 2999");
        CoreSyntax end = of("1 ; ".repeat(1499) + "2 +");
        CHECK.due("a fault behind 3000", end.fault(0) + " at " + end.fault(1), "1 at 3000");
    }

    private static void mostNodesOfAFunction() {
        CHECK.sentence("No tree has more than 32768 nodes: a function of 2996 patterns");
        CoreSyntax x = of("fun f " + "_ ".repeat(2996) + "= 1");
        CHECK.due("nodes", x.nodes(), 13 + 10 * 2996);
        CHECK.due("fresh", x.fresh(), 2996);
        CHECK.due("behind the root", x.behind(0), x.nodes());
        CHECK.due("the last node is the last variable", x.node(x.nodes() - 1, 1), 8192 + 2995);
        CoreSyntax two = of("fun f " + "_ ".repeat(1498) + "= 1 | f " + "_ ".repeat(1495) + "=");
        CHECK.due("fewer patterns in the second clause", two.fault(0), 3);
        CHECK.due("its place", two.fault(1), 2999);
    }

    /** A tree of loops in loops, so that the least tokens make the most nodes. */
    private static String loops(int many) {
        if (many == 0) {
            return "x";
        }
        int first = (many - 1) / 2;
        return "while " + loops(first) + " do " + loops(many - 1 - first);
    }

    private static void mostNodesOfLoops() {
        CHECK.sentence("No tree has more than 32768 nodes: 999 loops");
        CoreSyntax x = of(loops(999));
        CHECK.due("fault", x.fault(0), 0);
        CHECK.due("nodes", x.nodes(), 6 + 31 * 999 + 1000);
        CHECK.due("fresh", x.fresh(), 999);
        CHECK.due("behind the root", x.behind(0), x.nodes());
        CHECK.due("same", x.same(0, 0), true);
        CHECK.due("the last node", x.node(x.nodes() - 1, 0), 12);
        CHECK.due("one behind it", x.node(x.nodes(), 0), CoreSyntax.NONE);
        new Text().give(x, loops(999));
        CHECK.due("once more", x.parse(), 6 + 31 * 999 + 1000);
    }

    private static void longLists() {
        CHECK.sentence("Promises 11 and 12: lists as long as 3000 tokens make them");
        CoreSyntax x = of("open" + " a".repeat(2999));
        int list = x.node(2, 1);
        CHECK.due("length", x.length(list), 2999);
        CHECK.due("the last", x.item(list, 2998), x.nodes() - 1);
        CHECK.due("one behind it", x.item(list, 2999), CoreSyntax.NONE);
        StringBuilder fields = new StringBuilder("{ ");
        for (int label = 748; label > 0; label--) {
            fields.append(label).append(" = x , ");
        }
        CoreSyntax record = of(fields + "749 = y }");
        int first = record.node(record.node(4, 2), 1);
        CHECK.due("fields", record.length(first), 749);
        CHECK.due("the first label", record.node(record.item(first, 0), 1), 1);
        CHECK.due("the last label", record.node(record.item(first, 748), 1), 749);
    }

    private static void deepestTexts() {
        CHECK.sentence("Faults: 5 keeps every text from going deeper, however long it is");
        String[] openings = {
            "( ", "[ ", "{ a = ", "let in ", "let val x = ", "local ", "local in ", "abstype t = A with ", "raise ", "if ", "while ",
            "case ", "fn x => ", "x handle y => ", "x andalso raise ", "f ( ", "x + ( ", "x : ( ", "fun f x = ( ", "val x as "
        };
        for (String opening : openings) {
            int each = new Text().tokens(opening).length;
            CoreSyntax x = of(opening.repeat(2990 / each));
            CHECK.due("a fault of " + opening, x.fault(0) == 0, false);
        }
    }

    private static void anyArguments() {
        CHECK.sentence("Promises 2, 5, 7, 10 to 14: any numbers may come");
        int[] any = {Integer.MIN_VALUE, Integer.MIN_VALUE + 1, -8193, -2, -1, 0, 1, 9999, 8192, 32768, Integer.MAX_VALUE - 1,
            Integer.MAX_VALUE};
        CoreSyntax x = of("val x = 1 and y = 2");
        int nodes = x.nodes();
        for (int one : any) {
            boolean there = one >= 0 && one < nodes;
            CHECK.due("behind(" + one + ")", x.behind(one) != CoreSyntax.NONE, there);
            CHECK.due("length(" + one + ")", x.length(one) > 0, one == 1);
            CHECK.due("fault(" + one + ")", x.fault(one), one == 0 ? 0 : CoreSyntax.NONE);
            for (int other : any) {
                CHECK.due("node(" + one + ", " + other + ")", x.node(one, other) != CoreSyntax.NONE, there && (other == 0 || other == 1));
                CHECK.due("item(" + one + ", " + other + ")", x.item(one, other) != CoreSyntax.NONE, one == 1 && other == 0);
                CHECK.due("same(" + one + ", " + other + ")", x.same(one, other), there && one == other);
                CHECK.due("token(0, " + one + ", " + other + ")", x.token(0, one, other), CoreSyntax.NONE);
                CHECK.due("token(" + one + ", 0, " + other + ")", x.token(one, 0, other), CoreSyntax.NONE);
            }
        }
        CHECK.due("tokens", x.tokens(), 0);
        CHECK.due("nodes", x.nodes(), nodes);
    }
}
