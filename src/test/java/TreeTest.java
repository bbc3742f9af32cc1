/** Promises 9 to 15: nodes, node, length, item, behind, same, fresh. */
public final class TreeTest {
    private static final Check CHECK = new Check();

    public static void main(String[] args) {
        nodesOfAList();
        wrongNodes();
        lists();
        behindNodes();
        sameNodes();
        freshVariables();
        CHECK.end("TreeTest");
    }

    private static CoreSyntax of(String text) {
        CoreSyntax x = new CoreSyntax();
        new Text().give(x, text);
        CHECK.due("a fault in " + text, x.parse() == -1, false);
        return x;
    }

    private static void row(CoreSyntax x, int i, int kind, int a, int b, int c, int place) {
        int[] want = {kind, a, b, c, place};
        for (int what = 0; what < 5; what++) {
            CHECK.due("node " + i + " what " + what, x.node(i, what), want[what]);
        }
    }

    private static void nodesOfAList() {
        CoreSyntax x = of("; val ( a : b ) = ( 1 , c )");
        CHECK.due("nodes", x.nodes(), 15);
        row(x, 0, 84, 1, -1, -1, 0);
        row(x, 1, 1, 2, -1, -1, 1);
        row(x, 2, 70, -1, 3, -1, 1);
        row(x, 3, 1, 4, -1, -1, 2);
        row(x, 4, 71, 5, 8, 0, 2);
        row(x, 5, 36, 6, 7, -1, 3);
        row(x, 6, 32, 23, -1, -1, 3);
        row(x, 7, 53, -1, 24, -1, 5);
        row(x, 8, 12, 9, -1, -1, 8);
        row(x, 9, 1, 10, 12, -1, 8);
        row(x, 10, 13, 1, 11, -1, 8);
        row(x, 11, 10, 1, -1, -1, 9);
        row(x, 12, 1, 13, -1, -1, 8);
        row(x, 13, 13, 2, 14, -1, 8);
        row(x, 14, 11, 25, -1, -1, 11);
    }

    private static void wrongNodes() {
        CoreSyntax x = of("1");
        CHECK.due("nodes", x.nodes(), 7);
        int[] none = {-1, 7, Integer.MIN_VALUE, Integer.MAX_VALUE};
        for (int i : none) {
            for (int what = -1; what <= 5; what++) {
                CHECK.due("node " + i + " what " + what, x.node(i, what), -1);
            }
            CHECK.due("length " + i, x.length(i), 0);
            CHECK.due("item " + i, x.item(i, 0), -1);
            CHECK.due("behind " + i, x.behind(i), -1);
            CHECK.due("same " + i + " and 0", x.same(i, 0), false);
            CHECK.due("same 0 and " + i, x.same(0, i), false);
            CHECK.due("same " + i + " and itself", x.same(i, i), false);
        }
        CHECK.due("what -1", x.node(0, -1), -1);
        CHECK.due("what 5", x.node(0, 5), -1);
        CHECK.due("what of the most", x.node(0, Integer.MAX_VALUE), -1);
    }

    private static void lists() {
        CoreSyntax x = of("val a = 1 ; 2 ; val b = 3 and c = 4");
        int list = x.node(0, 1);
        CHECK.due("length", x.length(list), 3);
        CHECK.due("item 0", x.item(list, 0), x.node(list, 1));
        int second = x.node(list, 2);
        CHECK.due("length from the second", x.length(second), 2);
        CHECK.due("item 1", x.item(list, 1), x.node(second, 1));
        CHECK.due("item 0 from the second", x.item(second, 0), x.node(second, 1));
        int third = x.node(second, 2);
        CHECK.due("length from the third", x.length(third), 1);
        CHECK.due("item 2", x.item(list, 2), x.node(third, 1));
        CHECK.due("item 1 from the second", x.item(second, 1), x.node(third, 1));
        int[] none = {3, -1, 4, x.nodes(), Integer.MAX_VALUE, Integer.MIN_VALUE};
        for (int k : none) {
            CHECK.due("item " + k, x.item(list, k), -1);
        }
        CHECK.due("length of the root", x.length(0), 0);
        CHECK.due("item of the root", x.item(0, 0), -1);
        CHECK.due("item 1 of the root", x.item(0, 1), -1);
        int bind = x.node(x.item(list, 2), 2);
        CHECK.due("length of the bindings", x.length(bind), 2);
        CHECK.due("the second binding", x.node(x.node(x.item(bind, 1), 1), 1), 25);
        CHECK.due("a node that is no list, whose b is one", x.length(x.item(list, 2)), 0);
        CHECK.due("its item", x.item(x.item(list, 2), 0), -1);
        CHECK.due("its item 1", x.item(x.item(list, 2), 1), -1);
    }

    /** Behind a node is the sum of what is in it; told here by going through all nodes. */
    private static void behindNodes() {
        CoreSyntax x = of("abstype a = B of int with val x : t = 1 end ; fun f { a as b , ... } 1 = [ # 1 , x ]"
            + " | f _ _ = if a then b else let in while c do d end ; datatype t = datatype u"
            + " exception E and F = G.h val y = raise z handle _ => 2 ; local in type t = a -> b end");
        int total = x.nodes();
        for (int i = 0; i < total; i++) {
            CHECK.due("behind " + i, x.behind(i), behind(x, i));
        }
        CHECK.due("behind the root", x.behind(0), total);
        CHECK.due("behind the last", x.behind(total - 1), total);
    }

    private static final int[][] KIDS = {
        {1, 1, 2}, {12, 1}, {13, 2}, {14, 1, 2}, {15, 1, 2}, {16, 1, 2}, {17, 1, 2}, {18, 1}, {19, 1},
        {20, 1, 2}, {33, 1}, {34, 2}, {35, 3}, {36, 1, 2}, {37, 2, 3}, {51, 1}, {52, 2}, {53, 1},
        {54, 1, 2}, {70, 1, 2}, {71, 1, 2}, {72, 1}, {73, 1, 3}, {74, 1, 2}, {75, 1, 3}, {76, 2},
        {78, 1, 2, 3}, {79, 1}, {80, 2}, {82, 1, 2}, {83, 1}, {84, 1}
    };

    private static int behind(CoreSyntax x, int i) {
        int next = i + 1;
        for (int[] kids : KIDS) {
            for (int k = 1; k < kids.length && kids[0] == x.node(i, 0); k++) {
                int kid = x.node(i, kids[k]);
                if (kid != -1) {
                    CHECK.due("kid of " + i + " in preorder", kid, next);
                    next = behind(x, kid);
                }
            }
        }
        return next;
    }

    private static void sameNodes() {
        alike("f ( x , 1 ) ; f ( x , 1 )", true);
        alike("( f ( ( x ) , 1 ) ) ; f ( x , 1 )", true);
        alike("f ( x , 1 ) ; f ( x , 2 )", false);
        alike("f ( x , 1 ) ; f ( y , 1 )", false);
        alike("f ( x , 1 ) ; f ( x , 1 , 1 )", false);
        alike("f x ; x", false);
        alike("f ; A.f", false);
        alike("{ a = 1 , b = 2 } ; { b = 2 , a = 1 }", true);
        alike("{ a = 1 , b = 2 } ; { c = 1 , b = 2 }", false);
        alike("fn { a , ... } => 1 ; fn { a } => 1", false);
        alike("fn { a , ... } => 1 ; fn { a = a , ... } => 1", true);
        alike("fn x : t => 1 ; fn x : u => 1", false);
        alike("fn x : t as y => 1 ; fn x : t as y => 1", true);
        alike("fn x : t as y => 1 ; fn x as y => 1", false);
        alike("fn x : t as y => 1 ; fn x : t as z => 1", false);
        alike("fn C x => 1 ; fn D x => 1", false);
        alike("let val x = 1 in x end ; let val rec x = 1 in x end", false);
        alike("let val x = 1 in x end ; let val x = 1 ; in x end", true);
        alike("x : t -> u ; x : t -> u", true);
        alike("x : t * u ; x : { 1 : t , 2 : u }", true);
        alike("x : t u ; x : u t", false);
        alike("let datatype 'a t = A | B of t in 1 end ; let datatype 'a t = A | B of t in 1 end", true);
        alike("let datatype 'a t = A | B of t in 1 end ; let datatype 'a t = A | B of u in 1 end", false);
        alike("let datatype t = A in 1 end ; let abstype t = A with end in 1 end", false);
        alike("1 ; 'w1", true);
        alike("# 1 ; # 1", false);
        alike("let open a in 1 end ; let open b in 1 end", false);
        CoreSyntax x = of("1 + 2");
        for (int i = 0; i < x.nodes(); i++) {
            CHECK.due("same " + i, x.same(i, i), true);
        }
        CHECK.due("a part is not the whole", x.same(0, 1), false);
    }

    private static void alike(String text, boolean want) {
        CoreSyntax x = of(text);
        int list = x.node(0, 1);
        int one = x.node(x.node(x.node(x.item(list, 0), 2), 1), 2);
        int other = x.node(x.node(x.node(x.item(list, 1), 2), 1), 2);
        CHECK.due("same: " + text, x.same(one, other), want);
        CHECK.due("same, turned: " + text, x.same(other, one), want);
    }

    private static void freshVariables() {
        CHECK.due("none", of("1 + 2").fresh(), 0);
        CHECK.due("of a selector", of("# 1").fresh(), 1);
        CHECK.due("of a while", of("while a do b").fresh(), 1);
        CHECK.due("of three patterns", of("fun f 1 2 3 = 4 | f _ _ _ = 5").fresh(), 3);
        CHECK.due("of two functions", of("fun f 1 2 = 4 and g x = # 1 x").fresh(), 4);
        CHECK.due("of an infix head", of("fun ( x + y ) z = 1").fresh(), 2);
        CHECK.due("of a second parse", again("# 1 ; # 2", "# 3"), 1);
    }

    private static int again(String first, String second) {
        CoreSyntax x = of(first);
        new Text().give(x, second);
        x.parse();
        return x.fresh();
    }
}
