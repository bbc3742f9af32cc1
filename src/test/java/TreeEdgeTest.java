import java.util.Set;
import java.util.TreeSet;

/** Edges of promises 9 to 15 and of the terms' sentences on the tree: empty lists, first and last nodes, none. */
public final class TreeEdgeTest {
    private static final Check CHECK = new Check();
    private static final int NONE = CoreSyntax.NONE;
    private static final int LEAST = Integer.MIN_VALUE;
    private static final int MOST = Integer.MAX_VALUE;
    /** Every kind of node stands in this text. */
    private static final String ALL_KINDS = "val 'a ( x as { p = 1 , q = C _ , ... } : t ) = let in f { a = 1 } end : 'a -> { b : u }"
        + " fun g y = raise z handle _ => fn 2 => 3 type t = u datatype t = A of v and w = B withtype k = l"
        + " datatype t = datatype s abstype t = A with end exception E of t and F = G local in end open H";
    /** Every derived form stands in this text. */
    private static final String ALL_FORMS = "val ( ) = ( ) val ( a , b ) = ( c , d ) val [ e ] = [ f ] val g :: h = i + j = k"
        + " val l = # 1 val m = case n of p => q val r = if s then t else u andalso v orelse w val x = ( y ; z )"
        + " val a = let in b ; c end val d = while e do f val { a , b : t , c as d , e : t as f } = 1 type t = u * v"
        + " fun f x = 1 fun f x y : t = 1 | op f z w = 2 fun x + y = 1 | ( z + w ) = 2 fun ( x + y ) z = 1 ; a ; A.b";

    public static void main(String[] args) {
        nodesOfNone();
        emptyProgram();
        nodeThatIsNot();
        whatThatIsNot();
        nothingIsMinusOne();
        emptyLists();
        listsOfOne();
        fixitiesLeaveNothing();
        shortAndLongNames();
        constants();
        labels();
        orderOfFields();
        dots();
        recs();
        placesOfLists();
        placesOfDecs();
        placesOfBrackets();
        placesOfPhrases();
        lengths();
        lengthOfOthers();
        items();
        itemsOfOthers();
        behindNodes();
        behindNone();
        sameNone();
        sameItself();
        sameNotPlaces();
        sameInOneThing();
        freshNone();
        freshInPreorder();
        CHECK.end("TreeEdgeTest");
    }

    private static CoreSyntax of(String text) {
        CoreSyntax x = new CoreSyntax();
        new Text().give(x, text);
        CHECK.due("a fault in " + text, x.parse() == NONE, false);
        return x;
    }

    /** A program of one expression: its node. */
    private static int exp(CoreSyntax x) {
        return x.node(4, 2);
    }

    private static void row(CoreSyntax x, int i, int... want) {
        for (int what = 0; what < want.length; what++) {
            CHECK.due("node(" + i + ", " + what + ")", x.node(i, what), want[what]);
        }
    }

    private static void nodesOfNone() {
        CHECK.sentence("Promise 9: how many nodes the tree has; 0 without one");
        CoreSyntax x = new CoreSyntax();
        CHECK.due("of a new object", x.nodes(), 0);
        x.token(1, 41, -1);
        CHECK.due("before the parse", x.nodes(), 0);
        CHECK.due("parse", x.parse(), 1);
        CHECK.due("of an empty program", x.nodes(), 1);
        new Text().give(x, "val x = y");
        CHECK.due("tokens leave it", x.nodes(), 1);
        CHECK.due("parse of more", x.parse(), 7);
        CHECK.due("of more", x.nodes(), 7);
        x.token(1, 34, -1);
        CHECK.due("parse with a fault", x.parse(), NONE);
        CHECK.due("behind a fault", x.nodes(), 0);
    }

    private static void emptyProgram() {
        CHECK.sentence("Terms: the root is the DECS of the program");
        for (String text : new String[] {"", ";", "; ;", "infix 3 a", "nonfix a ;"}) {
            CoreSyntax x = of(text);
            CHECK.due("nodes of " + text, x.nodes(), 1);
            row(x, 0, 84, -1, -1, -1, 0);
        }
        row(of("; val x = 1"), 0, 84, 1, -1, -1, 0);
        row(of("1"), 0, 84, 1, -1, -1, 0);
    }

    private static void nodeThatIsNot() {
        CHECK.sentence("Promise 10: NONE also when there is no such node");
        CoreSyntax x = of("1");
        row(x, 0, 84, 1, -1, -1, 0);
        row(x, 6, 10, 1, -1, -1, 0);
        for (int i : new int[] {-1, 7, 8, -2, LEAST, MOST}) {
            row(x, i, -1, -1, -1, -1, -1);
        }
        CoreSyntax none = new CoreSyntax();
        row(none, 0, -1, -1, -1, -1, -1);
        x.parse();
        row(x, 0, 84, -1, -1, -1, 0);
        row(x, 1, -1, -1, -1, -1, -1);
    }

    private static void whatThatIsNot() {
        CHECK.sentence("Promise 10: kind (what = 0), a (1), b (2), c (3), place (4); NONE for another what");
        CoreSyntax x = of("; val rec x = 1");
        row(x, 4, 71, 5, 6, 1, 3);
        for (int i = 0; i < 7; i++) {
            for (int what : new int[] {-1, 5, 6, -2, LEAST, MOST}) {
                CHECK.due("node(" + i + ", " + what + ")", x.node(i, what), NONE);
            }
        }
        CHECK.due("what and node that are none", x.node(7, 5), NONE);
    }

    private static void nothingIsMinusOne() {
        CHECK.sentence("Terms: a node has a kind, a, b, c (-1 where there is nothing)");
        int[] noA = {30};
        int[] noB = {10, 12, 18, 19, 30, 31, 50, 51, 72, 79, 83, 84};
        int[] hasC = {35, 37, 53, 71, 73, 75, 77, 78, 81};
        Set<Integer> seen = new TreeSet<>();
        for (String text : new String[] {ALL_KINDS, ALL_FORMS}) {
            CoreSyntax x = of(text);
            for (int i = 0; i < x.nodes(); i++) {
                int kind = x.node(i, 0);
                seen.add(kind);
                CHECK.due("a of kind " + kind, !has(noA, kind) || x.node(i, 1) == NONE, true);
                CHECK.due("b of kind " + kind, !has(noB, kind) || x.node(i, 2) == NONE, true);
                CHECK.due("c of kind " + kind, has(hasC, kind) || x.node(i, 3) == NONE, true);
                boolean named = kind == 11 || kind == 32;
                CHECK.due("name or long name", !named || (x.node(i, 1) == NONE) != (x.node(i, 2) == NONE), true);
            }
        }
        CHECK.due("kinds", seen.toString(), "[1, 10, 11, 12, 13, 14, 15, 16, 17, 18, 19, 20, 30, 31, 32, 33, 34, 35, 36, 37,"
            + " 50, 51, 52, 53, 54, 70, 71, 72, 73, 74, 75, 76, 77, 78, 79, 80, 81, 82, 83, 84]");
    }

    private static boolean has(int[] kinds, int kind) {
        for (int one : kinds) {
            if (one == kind) {
                return true;
            }
        }
        return false;
    }

    private static void emptyLists() {
        CHECK.sentence("Terms: empty lists are -1");
        CHECK.exp("{ }", "rec(-)");
        CHECK.exp("( )", "rec(-)");
        CHECK.tree("val { } = 1", "decs([val(- [bind(prec(-) 1)])])");
        CHECK.tree("val ( ) = 1", "decs([val(- [bind(prec(-) 1)])])");
        CHECK.tree("val { ... } = 1", "decs([val(- [bind(prec...(-) 1)])])");
        CHECK.tree("type t = { }", "decs([type([tb(- t trec(-))])])");
        CHECK.tree("type t = u", "decs([type([tb(- t t(- u))])])");
        CHECK.tree("datatype t = A", "decs([data([db(- t [cb(A -)])] -)])");
        CHECK.tree("abstype t = A with end", "decs([abs([db(- t [cb(A -)])] - decs(-))])");
        CHECK.tree("local in end", "decs([local(decs(-) decs(-))])");
        CHECK.exp("let in 1 end", "let(decs(-) 1)");
        CHECK.exp("let ; ; in 1 end", "let(decs(-) 1)");
        CHECK.exp("let infix a in 1 end", "let(decs(-) 1)");
        CHECK.tree("", "decs(-)");
    }

    private static void listsOfOne() {
        CHECK.sentence("Terms: LIST head, rest (LIST or -1)");
        CoreSyntax x = of("val x = 1");
        row(x, 1, 1, 2, -1, -1, 0);
        row(x, 3, 1, 4, -1, -1, 1);
        CoreSyntax y = of("val x = 1 val y = 2");
        row(y, 1, 1, 2, 7, -1, 0);
        row(y, 7, 1, 8, -1, -1, 4);
        CHECK.tree("val { a } = { b = 1 } : { c : t }",
            "decs([val(- [bind(prec([.a=(.a)]) typed(rec([b=(1)]) trec([c:(t(- t))])))])])");
        CHECK.tree("datatype 'a t = A withtype 'b u = 'c v",
            "decs([data([db(['a] t [cb(A -)])] [tb(['b] u t(['c] v))])])");
        CHECK.tree("val 'a x = 1", "decs([val(['a] [bind(.x 1)])])");
        CHECK.tree("val ( 'a ) x = 1", "decs([val(['a] [bind(.x 1)])])");
        CHECK.tree("open a", "decs([open([a])])");
        CHECK.tree("exception E", "decs([exc([eb(E -)])])");
    }

    private static void fixitiesLeaveNothing() {
        CHECK.sentence("Terms: infix, infixr, nonfix leave nothing");
        CHECK.tree("infix a", "decs(-)");
        CHECK.tree("infixr 3 a b", "decs(-)");
        CHECK.tree("nonfix a ;", "decs(-)");
        CHECK.tree("infix a val x = 1 nonfix a", "decs([val(- [bind(.x 1)])])");
        CHECK.tree("val x = 1 infixr a val y = 2", "decs([val(- [bind(.x 1)]) val(- [bind(.y 2)])])");
        CHECK.tree("local infix a in nonfix a end", "decs([local(decs(-) decs(-))])");
    }

    /** Between two texts each edge of short and long names; the two fields begin with that one. */
    private static void names(String before, String behind, int kind, int field) {
        int[][] tokens = {{2, 0, 0, -1}, {2, 8191, 8191, -1}, {5, 0, -1, 0}, {5, 32767, -1, 32767}};
        for (int[] token : tokens) {
            CoreSyntax x = new CoreSyntax();
            new Text().give(x, before);
            x.token(token[0], token[1], -1);
            new Text().give(x, behind);
            x.parse();
            int node = find(x, kind);
            String what = before + " " + token[1] + " of kind " + token[0];
            CHECK.due("a node of " + what, node == NONE, false);
            CHECK.due("name, " + what, x.node(node, field), token[2]);
            CHECK.due("long name, " + what, x.node(node, field + 1), token[3]);
        }
    }

    private static int find(CoreSyntax x, int kind) {
        int found = NONE;
        for (int i = 0; i < x.nodes(); i++) {
            found = x.node(i, 0) == kind ? i : found;
        }
        return found;
    }

    private static void shortAndLongNames() {
        CHECK.sentence("Terms: a name that may be long is two fields: its name and -1, or -1 and its long name");
        names("", "", 11, 1);
        names("fn", "=> 1", 32, 1);
        names("fn", "1 => 1", 35, 1);
        names("x :", "", 53, 2);
        names("datatype t = datatype", "", 77, 2);
        names("exception E =", "", 81, 2);
        names("open", "", 11, 1);
        CHECK.exp("x A.b y A.c", "app(app(app(x A.b) y) A.c)");
        CHECK.tree("val x A.b = 1 val A.c y = 2", "decs([val(- [bind(con(x .A.b) 1)]) val(- [bind(con(A.c .y) 2)])])");
        CHECK.tree("type t = x A.b y A.c", "decs([type([tb(- t t([t([t([t(- x)] A.b)] y)] A.c))])])");
    }

    private static void constants() {
        CHECK.sentence("Terms: CONSTANT it, PCONSTANT it: the constant of that number");
        for (int kind = 6; kind <= 9; kind++) {
            for (int value : new int[] {0, 1, 32766, 32767}) {
                CoreSyntax x = new CoreSyntax();
                x.token(1, 11, -1);
                x.token(kind, value, -1);
                x.token(1, 46, -1);
                x.token(kind, value, -1);
                x.parse();
                row(x, find(x, 31), 31, value, -1, -1, 1);
                row(x, find(x, 10), 10, value, -1, -1, 3);
            }
        }
        CoreSyntax x = of("7#3");
        row(x, 6, 10, 7, -1, -1, 0);
    }

    private static void labels() {
        CHECK.sentence("Grammar: LABEL: a NAME, or kind 6 with a number of 1 or more; a label is its number, or -1 less its name");
        String[] texts = {"1", "9999", "32767#1", "0#9999", "?0", "?1", "?8191", "`x"};
        int[] want = {1, 9999, 1, 9999, -1, -2, -8192, -1 - new Text().name("x")};
        for (int k = 0; k < texts.length; k++) {
            CHECK.due("# " + texts[k], field(of("# " + texts[k]), 34), want[k]);
            CHECK.due("{ " + texts[k] + " = 1 }", field(of("{ " + texts[k] + " = 1 }"), 13), want[k]);
            CHECK.due("fn { " + texts[k], field(of("fn { " + texts[k] + " = 1 } => 1"), 34), want[k]);
            CHECK.due("x : { " + texts[k], field(of("x : { " + texts[k] + " : t }"), 52), want[k]);
        }
        for (String none : new String[] {"0", "5#0", "$1", "'w1", "'s1", "A.b", "op x", "=", "'a", "_", "..."}) {
            CHECK.faultAt(1, "# ~> " + none);
            CHECK.faultAt(1, "{ ~> " + none + " = 1 }");
            CHECK.faultAt(1, "x : { ~> " + none + " : t }");
            if (!none.equals("...")) {
                CHECK.faultAt(1, "fn { ~> " + none + " = 1 } => 1");
            }
        }
        CHECK.good("fn { x } => 1");
        CHECK.faultAt(1, "fn { 1 ~> } => 1");
    }

    private static int field(CoreSyntax x, int kind) {
        return x.node(find(x, kind), 1);
    }

    private static void orderOfFields() {
        CHECK.sentence("Terms: fields stand in the order of numbers, then of names");
        CHECK.exp("{ ?8191 = a , ?0 = b , 9999 = c , 1 = d , ?1 = e , 2 = f , 10 = g }",
            "rec([1=(d) 2=(f) 10=(g) 9999=(c) true=(b) false=(e) ?8191=(a)])");
        CHECK.exp("{ 2 = # 1 , 1 = # 2 }",
            "rec([1=(fn([rule(prec...([.2=(.v0)]) v0)])) 2=(fn([rule(prec...([.1=(.v1)]) v1)]))])");
        CHECK.tree("val { ?0 , 9999 = x } = 1", "decs([val(- [bind(prec([.9999=(.x) .true=(.true)]) 1)])])");
        CHECK.tree("type t = { ?8191 : u , ?0 : v , 9999 : w }",
            "decs([type([tb(- t trec([9999:(t(- w)) true:(t(- v)) ?8191:(t(- u))]))])])");
    }

    private static void dots() {
        CHECK.sentence("Terms: PRECORD list, 1 with ... or 0");
        CHECK.due("with", x2(of("val { a , ... } = 1"), 33), 1);
        CHECK.due("alone", x2(of("val { ... } = 1"), 33), 1);
        CHECK.due("without", x2(of("val { a } = 1"), 33), 0);
        CHECK.due("empty", x2(of("val { } = 1"), 33), 0);
        CHECK.due("( )", x2(of("val ( ) = 1"), 33), 0);
        CHECK.due("a tuple", x2(of("val ( a , b ) = 1"), 33), 0);
        CHECK.due("an operator", x2(of("val a :: b = 1"), 33), 0);
        CHECK.due("a selector", x2(of("# 1"), 33), 1);
        CHECK.due("a loop", x2(of("while a do b"), 33), 0);
        CHECK.due("a clause", x2(of("fun f a b = 1"), 33), 0);
        CHECK.faultAt(1, "val { ... ~> , a } = 1");
        CHECK.faultAt(1, "val { a ~> ... } = 1");
        CHECK.faultAt(1, "{ ~> ... }");
    }

    private static int x2(CoreSyntax x, int kind) {
        return x.node(find(x, kind), 2);
    }

    private static void recs() {
        CHECK.sentence("Terms: BIND 1 when a rec of this val stood before it (also before an earlier one), else 0");
        CHECK.tree("val x = 1 and y = 2", "decs([val(- [bind(.x 1) bind(.y 2)])])");
        CHECK.tree("val rec x = 1 and y = 2", "decs([val(- [bindrec(.x 1) bindrec(.y 2)])])");
        CHECK.tree("val x = 1 and rec y = 2 and z = 3", "decs([val(- [bind(.x 1) bindrec(.y 2) bindrec(.z 3)])])");
        CHECK.tree("val rec rec x = 1", "decs([val(- [bindrec(.x 1)])])");
        CHECK.tree("val rec x = 1 val y = 2", "decs([val(- [bindrec(.x 1)]) val(- [bind(.y 2)])])");
        CHECK.tree("val x = let val rec y = 1 in 2 end and z = 3",
            "decs([val(- [bind(.x let(decs([val(- [bindrec(.y 1)])]) 2)) bind(.z 3)])])");
        CHECK.good("val rec _ = 1 and ( a , 2 ) = 3");
    }

    private static void placesOfLists() {
        CHECK.sentence("Terms: the place of a LIST is that of its head");
        CoreSyntax x = of(ALL_KINDS);
        for (int i = 0; i < x.nodes(); i++) {
            if (x.node(i, 0) == 1) {
                CHECK.due("place of LIST " + i, x.node(i, 4), x.node(x.node(i, 1), 4));
            }
        }
        CHECK.due("of a program's first", of("; ; val x = 1").node(1, 4), 2);
    }

    private static void placesOfDecs() {
        CHECK.sentence("Terms: the place of DECS is the token at which they begin, or would");
        CHECK.placed("", "decs@0(-)");
        CHECK.placed("; ;", "decs@0(-)");
        CHECK.placed("val x = let in 1 end", "decs@0([val@0(- [bind@1(.x@1 let@3(decs@4(-) 1@5))])])");
        CHECK.placed("val x = let ; in 1 end", "decs@0([val@0(- [bind@1(.x@1 let@3(decs@4(-) 1@6))])])");
        CHECK.placed("; local in end", "decs@0([local@1(decs@2(-) decs@3(-))])");
        CHECK.placed("; local ; in ; end", "decs@0([local@1(decs@2(-) decs@4(-))])");
        CHECK.placed("abstype t = A with end", "decs@0([abs@0([db@1(- t [cb@3(A -)])] - decs@5(-))])");
        CHECK.placed("abstype t = A with ; open a end",
            "decs@0([abs@0([db@1(- t [cb@3(A -)])] - decs@5([open@6([a@7])]))])");
    }

    private static void placesOfBrackets() {
        CHECK.sentence("Terms: brackets around it are not its own, but one with which its first part begins is");
        CHECK.placed("val x = ( y )", "decs@0([val@0(- [bind@1(.x@1 y@4)])])");
        CHECK.placed("val x = ( ( y ) z )", "decs@0([val@0(- [bind@1(.x@1 app@4(y@5 z@7))])])");
        CHECK.placed("val x = ( y ) : ( t )", "decs@0([val@0(- [bind@1(.x@1 typed@3(y@4 t@8(- t)))])])");
        CHECK.placed("val ( x ) = ( y ) handle ( z ) => 1",
            "decs@0([val@0(- [bind@1(.x@2 handle@5(y@6 [rule@9(.z@10 1@13)]))])])");
        CHECK.placed("val ( x ) : t = 1", "decs@0([val@0(- [bind@1(ptyped@1(.x@2 t@5(- t)) 1@7)])])");
        CHECK.placed("type t = ( u ) v -> ( w )", "decs@0([type@0([tb@1(- t arrow@3(t@3([t@4(- u)] v) t@9(- w)))])])");
    }

    private static void placesOfPhrases() {
        CHECK.sentence("Terms: a PLACE: the first token of its phrase");
        CHECK.placed("; type t = 'a", "decs@0([type@1([tb@2(- t 'a@4)])])");
        CHECK.placed("; type 'a t = u", "decs@0([type@1([tb@2(['a@2] t t@5(- u))])])");
        CHECK.placed("; type ( 'a , 'b ) t = { a : u }",
            "decs@0([type@1([tb@2(['a@3 'b@5] t trec@9([a:@10(t@12(- u))]))])])");
        CHECK.placed("; type t = ( 'a , u ) v w",
            "decs@0([type@1([tb@2(- t t@4([t@4(['a@5 t@7(- u)] v)] w))])])");
        CHECK.placed("; val op x as C _ = fn 1 => raise y",
            "decs@0([val@1(- [bind@2(as@2(x - con@5(C _@6)) fn@8([rule@9(p1@9 raise@11(y@12))]))])])");
        CHECK.placed("; val op C ( x : t as y ) = op z",
            "decs@0([val@1(- [bind@2(con@2(C as@5(x t@7(- t) .y@9)) z@12)])])");
        CHECK.placed("; val { a = x , b : t } = A.b",
            "decs@0([val@1(- [bind@2(prec@2([.a=@3(.x@5) .b=@7(ptyped@7(.b@7 t@9(- t)))]) A.b@12)])])");
        CHECK.placed("; val rec x = { a = 1 , b = 2 }",
            "decs@0([val@1(- [bindrec@3(.x@3 rec@5([a=@6(1@8) b=@10(2@12)]))])])");
        CHECK.placed("; datatype t = op A of u | B and 'a v = C withtype w = x",
            "decs@0([data@1([db@2(- t [cb@4(A t@7(- u)) cb@9(B -)]) db@11(['a@11] v [cb@14(C -)])] [tb@16(- w t@18(- x))])])");
        CHECK.placed("; datatype t = datatype u", "decs@0([repl@1(t u)])");
        CHECK.placed("; abstype t = A with open a end", "decs@0([abs@1([db@2(- t [cb@4(A -)])] - decs@6([open@6([a@7])]))])");
        CHECK.placed("; exception op E of t and op F = G and H",
            "decs@0([exc@1([eb@2(E t@5(- t)) ec@7(F G) eb@12(H -)])])");
        CHECK.placed("; local in open a A.b end", "decs@0([local@1(decs@2(-) decs@3([open@3([a@4 A.b@5])]))])");
    }

    private static void lengths() {
        CHECK.sentence("Promise 11: how many heads a LIST has from node i on");
        for (int many = 1; many <= 4; many++) {
            CoreSyntax x = of("open a " + "b ".repeat(many - 1));
            int list = x.node(2, 1);
            for (int left = many; left > 0; left--) {
                CHECK.due("length of " + left + " of " + many, x.length(list), left);
                list = x.node(list, 2);
            }
            CHECK.due("behind the last", list, NONE);
        }
    }

    private static void lengthOfOthers() {
        CHECK.sentence("Promise 11: 0 for another node or none");
        CoreSyntax x = of(ALL_KINDS);
        for (int i = 0; i < x.nodes(); i++) {
            if (x.node(i, 0) != 1) {
                CHECK.due("length(" + i + ") of kind " + x.node(i, 0), x.length(i), 0);
                CHECK.due("item(" + i + ", 0) of kind " + x.node(i, 0), x.item(i, 0), NONE);
            }
        }
        for (int i : new int[] {-1, x.nodes(), LEAST, MOST}) {
            CHECK.due("length(" + i + ")", x.length(i), 0);
        }
        CHECK.due("without a tree", new CoreSyntax().length(0), 0);
    }

    private static void items() {
        CHECK.sentence("Promise 12: head k, from 0, of the LIST that is node i; NONE when there is none");
        CoreSyntax x = of("open a b c");
        int list = x.node(2, 1);
        CHECK.due("the list", list, 3);
        int[] heads = {4, 6, 8};
        for (int from = 0; from < 3; from++) {
            int cell = 3 + 2 * from;
            for (int k = 0; from + k < 3; k++) {
                CHECK.due("item(" + cell + ", " + k + ")", x.item(cell, k), heads[from + k]);
            }
            for (int k : new int[] {3 - from, 4 - from, -1, -2, 8, 9, 10, LEAST, MOST}) {
                CHECK.due("item(" + cell + ", " + k + ")", x.item(cell, k), NONE);
            }
        }
        CoreSyntax one = of("open a");
        CHECK.due("the only one", one.item(3, 0), 4);
        CHECK.due("one behind it", one.item(3, 1), NONE);
        CHECK.due("one before it", one.item(3, -1), NONE);
    }

    private static void itemsOfOthers() {
        CHECK.sentence("Promise 12: NONE when node i is no LIST, or none");
        CoreSyntax x = of("val x = 1 and y = 2");
        for (int k : new int[] {-1, 0, 1, 2}) {
            for (int i : new int[] {0, 2, 4, 5, 6, -1, x.nodes(), LEAST, MOST}) {
                CHECK.due("item(" + i + ", " + k + ")", x.item(i, k), NONE);
            }
        }
        CHECK.due("a LIST", x.item(3, 1), x.node(x.node(3, 2), 1));
        CHECK.due("without a tree", new CoreSyntax().item(0, 0), NONE);
    }

    private static void behindNodes() {
        CHECK.sentence("Promise 13: the number of the next one in preorder that is not in node i");
        CoreSyntax x = of("val x = 1 val y = f 2");
        int[] want = {15, 15, 7, 7, 7, 6, 7, 15, 15, 15, 15, 12, 15, 14, 15};
        CHECK.due("nodes", x.nodes(), 15);
        for (int i = 0; i < want.length; i++) {
            CHECK.due("behind(" + i + ")", x.behind(i), want[i]);
        }
        CHECK.due("of an empty program", of("").behind(0), 1);
    }

    private static void behindNone() {
        CHECK.sentence("Promise 13: NONE when there is no node i");
        CoreSyntax x = of("1");
        CHECK.due("the last", x.behind(6), 7);
        for (int i : new int[] {-1, 7, 8, LEAST, MOST}) {
            CHECK.due("behind(" + i + ")", x.behind(i), NONE);
        }
        CHECK.due("without a tree", new CoreSyntax().behind(0), NONE);
    }

    private static void sameNone() {
        CHECK.sentence("Promise 14: whether two nodes of the tree are alike (a node that is none is not)");
        CoreSyntax x = of("1 ; 1");
        for (int none : new int[] {-1, x.nodes(), LEAST, MOST}) {
            for (int i : new int[] {0, x.nodes() - 1, -1, x.nodes(), LEAST, MOST}) {
                CHECK.due("same(" + i + ", " + none + ")", x.same(i, none), false);
                CHECK.due("same(" + none + ", " + i + ")", x.same(none, i), false);
            }
        }
        CHECK.due("without a tree", new CoreSyntax().same(0, 0), false);
    }

    private static void sameItself() {
        CHECK.sentence("Promise 14: a node is like itself");
        CoreSyntax x = of(ALL_KINDS);
        for (int i = 0; i < x.nodes(); i++) {
            CHECK.due("same(" + i + ", " + i + ")", x.same(i, i), true);
        }
        CHECK.due("the root of nothing", of("").same(0, 0), true);
    }

    private static void sameNotPlaces() {
        CHECK.sentence("Promise 14: not places");
        String[] decs = ("val 'a ( x as { p = 1 , q = C _ , ... } : t ) = let in f { a = 1 } end : 'a -> { b : u } @ "
            + "type ( 'a , 'b ) t = { 1 : u } and u = v w @ datatype t = A of v and w = B withtype k = l @ datatype t = datatype s @ "
            + "abstype t = A with end @ exception E of t and F = G @ local open H in open I A.b end @ val rec x = raise y handle _ => 2")
            .split(" @ ");
        for (String dec : decs) {
            CoreSyntax x = of(dec + " ; ; " + dec);
            int list = x.node(0, 1);
            CHECK.due("both of " + dec, x.same(x.item(list, 0), x.item(list, 1)), true);
            CHECK.due("the list is longer", x.same(list, x.node(list, 2)), false);
        }
    }

    /** Two declarations, of which the second differs in one thing. */
    private static void differ(String one, String other) {
        CoreSyntax x = of(one + " ; " + other);
        int list = x.node(0, 1);
        CHECK.due("same: " + one + " ; " + other, x.same(x.item(list, 0), x.item(list, 1)), false);
        CHECK.due("same: " + other + " ; " + one, x.same(x.item(list, 1), x.item(list, 0)), false);
    }

    private static void sameInOneThing() {
        CHECK.sentence("Promise 14: kinds, names, labels, constants, and so on, of them and of all in them");
        differ("val x = 1", "val x = 2");
        differ("val x = 1", "val y = 1");
        differ("val x = y", "val x = 1");
        differ("val x = y", "val x = A.b");
        differ("val x = A.b", "val x = A.c");
        differ("val x = 1", "val rec x = 1");
        differ("val x = 1", "val 'a x = 1");
        differ("val 'a x = 1", "val 'b x = 1");
        differ("val x = 1", "val x = 1 and y = 2");
        differ("val { a } = 1", "val { a , ... } = 1");
        differ("val { a = x } = 1", "val { b = x } = 1");
        differ("val { 1 = x } = 1", "val { 2 = x } = 1");
        differ("val C x = 1", "val D x = 1");
        differ("val C x = 1", "val A.c x = 1");
        differ("val C x = 1", "val C y = 1");
        differ("val x as y = 1", "val z as y = 1");
        differ("val x as y = 1", "val x : t as y = 1");
        differ("val x : t as y = 1", "val x : u as y = 1");
        differ("val x as y = 1", "val x as z = 1");
        differ("val 1 = x", "val 2 = x");
        differ("val _ = 1", "val ( ) = 1");
        differ("val x = { a = 1 }", "val x = { b = 1 }");
        differ("val x = { a = 1 }", "val x = { a = 2 }");
        differ("val x = { }", "val x = { a = 1 }");
        differ("val x = y : t", "val x = y : u");
        differ("val x = y : 'a", "val x = y : 'b");
        differ("val x = y : t u", "val x = y : u");
        differ("val x = y : { a : t }", "val x = y : { b : t }");
        differ("val x = y : A.t", "val x = y : A.u");
        differ("type t = u", "type v = u");
        differ("type t = u", "type t = v");
        differ("type t = u", "type 'a t = u");
        differ("datatype t = A", "datatype t = B");
        differ("datatype t = A", "datatype t = A of u");
        differ("datatype t = A", "datatype u = A");
        differ("datatype t = A", "datatype t = A withtype u = v");
        differ("datatype t = A", "datatype 'a t = A");
        differ("datatype t = datatype u", "datatype v = datatype u");
        differ("datatype t = datatype u", "datatype t = datatype v");
        differ("datatype t = datatype u", "datatype t = datatype A.u");
        differ("abstype t = A with end", "abstype t = A with open a end");
        differ("exception E", "exception F");
        differ("exception E", "exception E of t");
        differ("exception E = F", "exception E = G");
        differ("exception E = F", "exception G = F");
        differ("exception E = F", "exception E = A.f");
        differ("local open a in end", "local in open a end");
        differ("open a", "open b");
        differ("open a", "open a a");
        differ("open a", "open A.b");
    }

    private static void freshNone() {
        CHECK.sentence("Promise 15: how many fresh variables the tree has");
        CHECK.due("without a tree", new CoreSyntax().fresh(), 0);
        CHECK.due("of nothing", of("").fresh(), 0);
        CHECK.due("of a tree that has none", of("val x = f ( 1 + [ 2 ] ) andalso ?8191").fresh(), 0);
        CHECK.due("of one", of("# 1").fresh(), 1);
        CHECK.due("of two", of("# 1 # 1").fresh(), 2);
        CHECK.due("of a loop", of("while a do b").fresh(), 1);
        CHECK.due("of one pattern", of("fun f x = 1 | f y = 2 | f z = 3").fresh(), 1);
        CHECK.due("of two patterns", of("fun f x y = 1").fresh(), 2);
        CHECK.due("of an operator's two", of("fun x + y = 1").fresh(), 1);
        CHECK.due("of an operator's two and one", of("fun ( x + y ) z = 1").fresh(), 2);
        CHECK.due("of a pattern's field", of("fun f { a , ... } = 1 and g x = 2").fresh(), 2);
        CoreSyntax x = of("# 1");
        x.token(1, 41, -1);
        x.clear();
        x.retreat();
        CHECK.due("other calls leave it", x.fresh(), 1);
        x.parse();
        CHECK.due("behind a parse of nothing", x.fresh(), 0);
    }

    private static void freshInPreorder() {
        CHECK.sentence("Terms: fresh variables, 8192, 8193, .. in the order in which they first stand in the preorder");
        CoreSyntax x = of("?8191 ( # 1 ) ( # 2 )");
        int whole = exp(x);
        int first = x.node(x.node(whole, 1), 2);
        int second = x.node(whole, 2);
        CHECK.due("a name", x.node(x.node(x.node(whole, 1), 1), 1), 8191);
        CHECK.due("the first", variable(x, first), 8192);
        CHECK.due("the second", variable(x, second), 8193);
        CHECK.tree("fun f x = # 1 and g y z = # 2", "decs([val(- [bindrec(.f fn([rule(.v0 app(fn([rule(.x"
            + " fn([rule(prec...([.1=(.v1)]) v1)]))]) v0))])) bindrec(.g fn([rule(.v2 fn([rule(.v3 app(fn([rule("
            + "prec([.1=(.y) .2=(.z)]) fn([rule(prec...([.2=(.v4)]) v4)]))]) rec([1=(v2) 2=(v3)])))]))]))])])");
        CHECK.exp("case # 1 of _ => # 2",
            "app(fn([rule(_ fn([rule(prec...([.2=(.v0)]) v0)]))]) fn([rule(prec...([.1=(.v1)]) v1)]))");
        CoreSyntax turned = of("case # 1 of _ => # 2");
        new Text().read(turned, "( # 1 ) ( # 2 )", false);
        CHECK.due("the first of a second parse", variable(turned, turned.node(exp(turned), 1)), 8192);
        CHECK.due("the second of a second parse", variable(turned, turned.node(exp(turned), 2)), 8193);
        CoreSyntax again = of("# 1 # 2");
        new Text().read(again, "# 3", false);
        CHECK.due("counted anew in each parse", variable(again, exp(again)), 8192);
    }

    /** The variable of a selector that is node i. */
    private static int variable(CoreSyntax x, int i) {
        return x.node(x.node(x.item(x.node(i, 1), 0), 2), 1);
    }
}
