/** Edges of promises 4 and 5 and of the terms' sentences on faults: places, THE END, and which of several is told. */
public final class FaultEdgeTest {
    private static final Check CHECK = new Check();
    /** The names 0 .. 8 with kinds under which they can stand behind op. */
    private static final String[] NAMES = {"true", "false", "nil", "::", "ref", "it", "`=", "*", "+"};

    public static void main(String[] args) {
        faultZero();
        faultOne();
        faultOfAnotherWhat();
        faultOfTheLastParse();
        faultLeavesNoTree();
        faultLeavesNoTokens();
        theEnd();
        theEndOfManyTokens();
        wordsThatStandNowhere();
        labelsTwice();
        labelsOnce();
        clauseNames();
        clausePatterns();
        clausesOfTheirOwn();
        operatorsThatMayNotStandTogether();
        constructorNames();
        exceptionNames();
        signBehindOp();
        layeredNames();
        clauseNamesThatMayNotBeBound();
        firstFromTheLeft();
        misplacedBeforeLabel();
        misplacedBeforeClash();
        misplacedBeforeDeep();
        misplacedBeforeName();
        misplacedBeforeClause();
        deepBeforeName();
        nameBeforeClause();
        CHECK.end("FaultEdgeTest");
    }

    private static String times(String text, int n) {
        return (text + " ").repeat(n);
    }

    private static CoreSyntax after(String text) {
        CoreSyntax x = new CoreSyntax();
        new Text().give(x, text);
        x.parse();
        return x;
    }

    private static void faultZero() {
        CHECK.sentence("Promise 5: the kind of its fault (what = 0), 0 when it had none (or there was none yet)");
        CHECK.due("none yet", new CoreSyntax().fault(0), 0);
        CoreSyntax x = new CoreSyntax();
        x.token(1, 34, -1);
        CHECK.due("before the parse", x.fault(0), 0);
        CHECK.due("of nothing", after("").fault(0), 0);
        CHECK.due("of a good text", after("1").fault(0), 0);
        CHECK.due("1", after(")").fault(0), 1);
        CHECK.due("2", after("{ a = 1 , a = 2 }").fault(0), 2);
        CHECK.due("3", after("fun f x = 1 | g x = 2").fault(0), 3);
        CHECK.due("4", after("infix 5 f ; a f b :: c").fault(0), 4);
        CHECK.due("5", after(times("(", 33)).fault(0), 5);
        CHECK.due("6", after("exception it").fault(0), 6);
    }

    private static void faultOne() {
        CHECK.sentence("Promise 5: the fault's place (1), NONE without one");
        CHECK.due("none yet", new CoreSyntax().fault(1), CoreSyntax.NONE);
        CHECK.due("of nothing", after("").fault(1), CoreSyntax.NONE);
        CHECK.due("of a good text", after("1").fault(1), CoreSyntax.NONE);
        CHECK.due("the first token", after(")").fault(1), 0);
        CHECK.due("the second token", after("( ]").fault(1), 1);
        CHECK.due("the end", after("(").fault(1), 1);
    }

    private static void faultOfAnotherWhat() {
        CHECK.sentence("Promise 5: NONE for another what");
        CoreSyntax[] all = {new CoreSyntax(), after("1"), after("( (")};
        for (CoreSyntax x : all) {
            for (int what : new int[] {-1, 2, 3, -2, Integer.MIN_VALUE, Integer.MAX_VALUE}) {
                CHECK.due("fault(" + what + ")", x.fault(what), CoreSyntax.NONE);
            }
        }
    }

    private static void faultOfTheLastParse() {
        CHECK.sentence("Promise 5: of the last parse()");
        CoreSyntax x = after("{ a = 1 , a");
        x.token(1, 29, -1);
        x.clear();
        x.retreat();
        CHECK.due("other calls leave it", x.fault(0) + " at " + x.fault(1), "2 at 5");
        new Text().read(x, "( ( ]", false);
        CHECK.due("the next fault", x.fault(0) + " at " + x.fault(1), "1 at 2");
        new Text().read(x, "1", false);
        CHECK.due("no fault", x.fault(0) + " at " + x.fault(1), "0 at -1");
        new Text().read(x, ")", false);
        x.parse();
        CHECK.due("a parse of nothing has none", x.fault(0) + " at " + x.fault(1), "0 at -1");
    }

    private static void faultLeavesNoTree() {
        CHECK.sentence("Promise 4: when there is a fault, NONE: there is no tree then");
        CoreSyntax x = after("# 1 ; # 2");
        CHECK.due("nodes before", x.nodes(), 27);
        new Text().give(x, "# 1 ; # 2 ; )");
        CHECK.due("parse", x.parse(), CoreSyntax.NONE);
        CHECK.due("nodes", x.nodes(), 0);
        CHECK.due("fresh", x.fresh(), 0);
        CHECK.due("node(0, 0)", x.node(0, 0), CoreSyntax.NONE);
        CHECK.due("length(1)", x.length(1), 0);
        CHECK.due("item(1, 0)", x.item(1, 0), CoreSyntax.NONE);
        CHECK.due("behind(0)", x.behind(0), CoreSyntax.NONE);
        CHECK.due("same(0, 0)", x.same(0, 0), false);
        CHECK.due("a parse of nothing then", x.parse(), 1);
    }

    private static void faultLeavesNoTokens() {
        CHECK.sentence("Promise 4: reads the tokens as a program; there are none any more then");
        CoreSyntax x = after("( ( (");
        CHECK.due("tokens behind a fault", x.tokens(), 0);
        CHECK.due("parse then", x.parse(), 1);
        new Text().give(x, "1 ; 2");
        CHECK.due("parse", x.parse(), 13);
        CHECK.due("tokens behind a good parse", x.tokens(), 0);
        CHECK.due("parse once more", x.parse(), 1);
        CHECK.due("nodes", x.nodes(), 1);
    }

    private static void theEnd() {
        CHECK.sentence("Terms: behind the last token stands THE END (its place is how many tokens there are)");
        String[] unfinished = {
            "val", "val x", "val x =", "fun", "fun f", "fun f x", "fun f x =", "fun f x : ", "fun f x = 1 |",
            "fun f x = 1 and", "type", "type t", "type t =", "type (", "datatype", "datatype t =", "datatype t = A of",
            "datatype t = A |", "datatype t = A withtype", "datatype t = datatype", "abstype t = A", "abstype t = A with",
            "exception", "exception E =", "exception E of", "exception E and", "local", "local in", "open", "infix",
            "infix 3", "nonfix", "(", "( x", "( x ,", "( x ;", "[", "[ x", "[ x ,", "{", "{ a", "{ a =", "{ a = 1", "{ a = 1 ,",
            "#", "op", "let", "let in", "let in x", "let in x ;", "x +", "x =", "x :", "x : (", "x : { a", "x : t *", "x : t ->",
            "x : ( t , u )", "x andalso", "x orelse", "x handle", "x handle y", "x handle y =>", "raise", "if", "if x",
            "if x then", "if x then y", "if x then y else", "while", "while x", "while x do", "case", "case x", "case x of",
            "case x of y =>", "case x of y => z |", "fn", "fn x", "fn x =>", "fn x => y |", "val x as", "val { a", "val { ...",
            "val x +", "val op", "val rec", "val 'a", "val ( 'a", "val x = 1 and"
        };
        for (String text : unfinished) {
            CHECK.faultAt(1, text + " ~>");
        }
        CHECK.good("");
        CHECK.good("1");
        CHECK.good("val x = 1 ;");
    }

    private static void theEndOfManyTokens() {
        CHECK.sentence("Terms: THE END behind 3000 tokens has the place 3000");
        for (int many : new int[] {1, 2, 511, 2999, 3000}) {
            CoreSyntax x = new CoreSyntax();
            for (int k = 1; k < many; k++) {
                x.token(1, 41, -1);
            }
            x.token(1, 29, -1);
            CHECK.due("parse of " + many, x.parse(), CoreSyntax.NONE);
            CHECK.due("fault behind " + many, x.fault(0) + " at " + x.fault(1), "1 at " + many);
        }
    }

    private static void wordsThatStandNowhere() {
        CHECK.sentence("Terms: 49 .. 58 stand nowhere");
        String[] beginnings = {"", ";", "val", "val x =", "x", "(", "( x", "[", "{", "let", "let in x", "x :", "x : t", "fn",
            "fn x", "fun f", "fun f x", "type", "datatype t =", "exception", "open", "infix", "infix a", "#", "op", "1 ;"};
        for (String beginning : beginnings) {
            for (int word = 49; word <= 58; word++) {
                CHECK.faultAt(1, beginning + " ~> %" + word);
            }
        }
        CHECK.good("%48 1");
    }

    private static void labelsTwice() {
        CHECK.sentence("Faults: 2 a label that its record has already");
        CHECK.faultAt(2, "{ a = 1 , ~> a = 2 }");
        CHECK.faultAt(2, "{ a = 1 , b = 2 , ~> a = 3 }");
        CHECK.faultAt(2, "{ a = 1 , b = 2 , ~> b = 3 }");
        CHECK.faultAt(2, "{ 1 = 1 , ~> 1 = 2 }");
        CHECK.faultAt(2, "{ 9999 = 1 , ~> 9999 = 2 }");
        CHECK.faultAt(2, "{ 5#7 = 1 , ~> 6#7 = 2 }");
        CHECK.faultAt(2, "{ ?0 = 1 , ~> ?0 = 2 }");
        CHECK.faultAt(2, "{ ?8191 = 1 , ~> ?8191 = 2 }");
        CHECK.faultAt(2, "{ x = 1 , ~> `x = 2 }");
        CHECK.faultAt(2, "{ a = { a = 1 } , ~> a = 2 }");
        CHECK.faultAt(2, "fn { a , ~> a } => 1");
        CHECK.faultAt(2, "fn { a = x , ~> a } => 1");
        CHECK.faultAt(2, "fn { a : t , ~> a = x } => 1");
        CHECK.faultAt(2, "fn { a as x , ~> a as y } => 1");
        CHECK.faultAt(2, "fn { 1 = x , ~> 1 = y } => 1");
        CHECK.faultAt(2, "x : { a : t , ~> a : t }");
        CHECK.faultAt(2, "x : { 2 : t , 1 : t , ~> 2 : t }");
        CHECK.faultAt(2, "{ a = 1 , ~> a");
    }

    private static void labelsOnce() {
        CHECK.sentence("Faults: 2 is of its own record alone, and by numbers, not values");
        CHECK.good("{ a = 1 , b = 1 }");
        CHECK.good("{ 1 = 1 , 2 = 1 , 11 = 1 }");
        CHECK.good("{ 7#1 = 1 , 7#2 = 2 }");
        CHECK.good("{ 1 = 1 , ?0 = 1 , ?1 = 1 , ?2 = 1 }");
        CHECK.good("{ a = { a = 1 } , b = { a = 2 } }");
        CHECK.good("fn { a = { a } , b = { a } } => { a = 1 }");
        CHECK.good("x : { a : { a : t } , b : { a : t } }");
        CHECK.good("( { a = 1 } , { a = 2 } , # a , # a )");
        CHECK.good("fn { a , b = a } => 1");
    }

    private static void clauseNames() {
        CHECK.sentence("Faults: 3 at the = of a clause when its name is not that of the first clause");
        CHECK.good("fun f x = 1 | f y = 2 | f z = 3");
        CHECK.faultAt(3, "fun f x = 1 | g y ~> = 2");
        CHECK.faultAt(3, "fun f x = 1 | f y = 2 | g z ~> = 3");
        CHECK.faultAt(3, "fun f x = 1 | g y : t ~> = 2");
        CHECK.good("fun f x = 1 | op f y = 2 | `f z = 3");
        CHECK.good("fun x + y = 1 | op + z = 2 | ( x + y ) = 3");
        CHECK.faultAt(3, "fun x + y = 1 | x - y ~> = 2");
        CHECK.faultAt(3, "fun f x = 1 | x + y ~> = 2");
        CHECK.faultAt(3, "fun x + y = 1 | f x ~> = 2");
        CHECK.faultAt(3, "fun ( x + y ) z = 1 | ( x - y ) z ~> = 2");
    }

    private static void clausePatterns() {
        CHECK.sentence("Faults: 3 when its number of patterns is not that of the first clause");
        for (int many = 1; many <= 5; many++) {
            String first = "fun f " + times("x", many) + "= 1 | ";
            CHECK.good(first + "f " + times("_", many) + "= 2");
            CHECK.faultAt(3, first + "f " + times("_", many + 1) + "~> = 2");
            if (many > 1) {
                CHECK.faultAt(3, first + "f " + times("_", many - 1) + "~> = 2");
            }
        }
        CHECK.faultAt(3, "fun f x = 1 | f x = 2 | f x y ~> = 3");
        CHECK.faultAt(3, "fun f x y = 1 | f ( x , y ) ~> = 2");
        CHECK.good("fun x + y = 1 | op + ( x , y ) = 2");
        CHECK.faultAt(3, "fun x + y = 1 | op + x y ~> = 2");
        CHECK.faultAt(3, "fun x + y = 1 | ( x + y ) z ~> = 2");
        CHECK.good("fun ( x + y ) z = 1 | op + x y = 2");
    }

    private static void clausesOfTheirOwn() {
        CHECK.sentence("Faults: 3, the first clause is that of the same clauses");
        CHECK.good("fun f x = 1 and g x y = 2");
        CHECK.good("fun f x = 1 fun g x y = 2");
        CHECK.good("fun f x = let fun g x y = 1 in 2 end | f y = 3");
        CHECK.faultAt(3, "fun f x = 1 and g x y = 2 | f x ~> = 3");
        CHECK.faultAt(3, "fun f x = 1 and g x y = 2 | g x ~> = 3");
        CHECK.faultAt(3, "fun f x = let fun g x y = 1 in 2 end | g x y ~> = 3");
    }

    private static void operatorsThatMayNotStandTogether() {
        CHECK.sentence("Faults: 4 an operator that may not stand with one before it");
        CHECK.faultAt(4, "infix 5 f ; a f b ~> :: c");
        CHECK.faultAt(4, "infix 5 f ; a :: b ~> f c");
        CHECK.faultAt(4, "infix 5 f ; fn a f b ~> :: c => 1");
        CHECK.faultAt(4, "infix 5 f ; a f b ~> ::");
        CHECK.faultAt(4, "infixr 4 f ; a f b ~> = c");
        CHECK.faultAt(4, "infixr 4 f ; a = b ~> f c");
        CHECK.faultAt(4, "infixr 4 f ; fn a f b ~> `= c => 1");
        CHECK.good("infix 5 f ; a f ( b :: c )");
        CHECK.good("infix 5 f ; a f b = c :: d");
        CHECK.good("infix 5 f ; ( a f b , c :: d )");
        CHECK.good("infix 5 f ; a f b andalso c :: d");
    }

    private static void constructorNames() {
        CHECK.sentence("Faults: 6 true, false, nil, ::, ref, it as the name of a constructor (behind op, the name)");
        for (int name = 0; name < NAMES.length; name++) {
            constructor("datatype t = ", NAMES[name], "", name <= 5);
            constructor("datatype t = A | ", NAMES[name], "", name <= 5);
            constructor("datatype t = A and u = ", NAMES[name], " of v", name <= 5);
            constructor("abstype t = ", NAMES[name], " with end", name <= 5);
        }
        CHECK.faultAt(6, "datatype t = ~> `true");
        CHECK.faultAt(6, "datatype t = ~> `::");
        CHECK.good("datatype t = A of it true ref");
        CHECK.good("datatype true = A and nil = B withtype ref = it");
    }

    private static void constructor(String before, String name, String behind, boolean refused) {
        if (refused) {
            CHECK.faultAt(6, before + "~> " + name + behind);
            CHECK.faultAt(6, before + "op ~> " + name + behind);
        } else {
            CHECK.good(before + name + behind);
            CHECK.good(before + "op " + name + behind);
        }
    }

    private static void exceptionNames() {
        CHECK.sentence("Faults: 6 true, false, nil, ::, ref, it as the name of an exception (behind op, the name)");
        for (int name = 0; name < NAMES.length; name++) {
            constructor("exception ", NAMES[name], "", name <= 5);
            constructor("exception ", NAMES[name], " of t", name <= 5);
            constructor("exception E and ", NAMES[name], " = F", name <= 5);
            CHECK.good("exception E = op " + NAMES[name]);
        }
        CHECK.good("exception E = true and F = nil and G = it");
    }

    private static void signBehindOp() {
        CHECK.sentence("Faults: 6 the sign = behind op in patterns and such names");
        CHECK.faultAt(6, "val op ~> = = 1");
        CHECK.faultAt(6, "val C op ~> = = 1");
        CHECK.faultAt(6, "val x :: op ~> = = 1");
        CHECK.faultAt(6, "val ( op ~> = , x ) = 1");
        CHECK.faultAt(6, "val [ op ~> = ] = 1");
        CHECK.faultAt(6, "val { a = op ~> = } = 1");
        CHECK.faultAt(6, "val x as op ~> = = 1");
        CHECK.faultAt(6, "val op ~> = as x = 1");
        CHECK.faultAt(6, "val op ~> = x = 1");
        CHECK.faultAt(6, "fn op ~> = => 1");
        CHECK.faultAt(6, "case x of op ~> = => 1");
        CHECK.faultAt(6, "x handle op ~> = => 1");
        CHECK.faultAt(6, "fun f op ~> = = 1");
        CHECK.faultAt(6, "fun x + op ~> = = 1");
        CHECK.faultAt(6, "fun ( op ~> = + x ) = 1");
        CHECK.faultAt(6, "datatype t = op ~> =");
        CHECK.faultAt(6, "datatype t = A | op ~> = of u");
        CHECK.faultAt(6, "abstype t = op ~> =");
        CHECK.faultAt(6, "exception op ~> =");
        CHECK.faultAt(6, "exception op ~> = = E");
        CHECK.good("val op `= = 1");
        CHECK.good("datatype t = op `=");
        CHECK.good("exception op `= = op =");
        CHECK.good("op =");
        CHECK.good("val x = op = ( op = , 1 )");
        CHECK.faultAt(1, "val ~> = = 1");
        CHECK.faultAt(1, "datatype t = ~> =");
        CHECK.faultAt(1, "exception ~> = = E");
    }

    private static void layeredNames() {
        CHECK.sentence("Faults: 6 the word as when the name before it is true, false, nil, ::, ref");
        for (int name = 0; name < NAMES.length; name++) {
            String mark = name <= 4 ? "~> " : "";
            layered("val op " + NAMES[name] + " " + mark + "as x = 1", name <= 4);
            layered("val op " + NAMES[name] + " : t " + mark + "as x = 1", name <= 4);
            layered("fn ( op " + NAMES[name] + " " + mark + "as x ) => 1", name <= 4);
            layered("val { " + NAMES[name] + " " + mark + "as x } = 1", name <= 4);
            layered("val { " + NAMES[name] + " : t " + mark + "as x } = 1", name <= 4);
            layered("val { a = op " + NAMES[name] + " " + mark + "as x } = 1", name <= 4);
            layered("val x as op " + NAMES[name] + " " + mark + "as y = 1", name <= 4);
        }
        CHECK.faultAt(6, "val true ~> as x = 1");
        CHECK.faultAt(6, "nonfix :: val :: ~> as x = 1");
        CHECK.faultAt(6, "val `nil ~> as x = 1");
        CHECK.good("val it as x = 1");
        CHECK.good("val x as true = 1");
        CHECK.good("val { true , false = nil , ref : t } = 1");
    }

    private static void layered(String text, boolean refused) {
        if (refused) {
            CHECK.faultAt(6, text);
        } else {
            CHECK.good(text);
        }
    }

    private static void clauseNamesThatMayNotBeBound() {
        CHECK.sentence("Faults: at the = of a clause 6 when its name is =, true, false, nil, ::, ref");
        for (int name = 0; name < NAMES.length; name++) {
            boolean refused = name <= 4 || name == 6;
            String mark = refused ? "~> " : "";
            layered("fun op " + NAMES[name] + " x " + mark + "= 1", refused);
            layered("fun op " + NAMES[name] + " x y : t " + mark + "= 1", refused);
            layered("infix ?" + name + " fun x " + NAMES[name] + " y " + mark + "= 1", refused);
            layered("infix ?" + name + " fun ( x " + NAMES[name] + " y ) z " + mark + "= 1", refused);
            layered("nonfix ?" + name + " fun " + NAMES[name] + " x " + mark + "= 1", refused);
            layered("fun f x = 1 and op " + NAMES[name] + " x " + mark + "= 1", refused);
        }
        CHECK.faultAt(6, "fun op = x ~> = 1");
        CHECK.faultAt(6, "fun op = x y : t ~> = 1");
        CHECK.faultAt(6, "fun f x = 1 and op = x ~> = 1");
        CHECK.faultAt(6, "fun op ``= x ~> = 1");
        CHECK.good("fun f true nil ( op :: x ) ( ref y ) = 1");
    }

    private static void firstFromTheLeft() {
        CHECK.sentence("Faults: the text is read from the left; the first token at which one of these is so is the fault's place");
        CHECK.faultAt(1, "val ~> ) = )");
        CHECK.faultAt(2, "{ a = 1 , ~> a = ) }");
        CHECK.faultAt(1, "{ a = ~> ) , a = 1 }");
        CHECK.faultAt(6, "exception ~> it of )");
        CHECK.faultAt(1, "exception E of ~> ) and it");
        CHECK.faultAt(4, "infix 5 f ; a f b ~> :: )");
        CHECK.faultAt(1, "infix 5 f ; a f ~> ) :: b");
        CHECK.faultAt(3, "fun f x = 1 | g x ~> = )");
        CHECK.faultAt(1, "fun f x = 1 | g ~> ) = 1");
        CHECK.faultAt(1, "fun f x = 1 | g x : ~> ) = 1");
        CHECK.faultAt(6, "fun true x ~> = exception");
        CHECK.faultAt(5, times("(", 32) + "~> ( exception");
        CHECK.faultAt(6, "val true ~> as " + times("(", 33));
        CHECK.faultAt(2, "fn { a , ~> a as true as x } => 1");
        CHECK.faultAt(6, "fn { true ~> as x , true } => 1");
    }

    private static void misplacedBeforeLabel() {
        CHECK.sentence("Faults: 1 before 2 on one token");
        CHECK.faultAt(1, "fn { a , ... ~> , a } => 1");
        CHECK.faultAt(1, "{ a = { b = 1 } , b = ~> , a = 2 }");
        CHECK.faultAt(1, "{ 1 = 1 , ~> 0 = 2 , 1 = 3 }");
        CHECK.faultAt(1, "{ a = 1 , ~> $1 = 2 }");
        CHECK.faultAt(1, "{ a = 1 , ~> op a = 2 }");
    }

    private static void misplacedBeforeClash() {
        CHECK.sentence("Faults: 1 before 4 on one token");
        CHECK.faultAt(1, "infix 5 f ; a f ~> :: b");
        CHECK.faultAt(1, "infix 5 f ; a :: ~> f b");
        CHECK.faultAt(1, "infix 5 f fun x f y ~> :: z = 1");
        CHECK.faultAt(1, "infix 5 f ; a f b andalso ~> :: c");
        CHECK.faultAt(4, "infix 5 f ; a f b ~> :: c");
    }

    private static void misplacedBeforeDeep() {
        CHECK.sentence("Faults: 1 before 5 on one token");
        String open = times("(", 32);
        CHECK.faultAt(1, open + "x + ~> raise y");
        CHECK.faultAt(1, open + "x ~> local");
        CHECK.faultAt(1, open + "~> handle");
        CHECK.faultAt(1, open + "x + ~> if");
        CHECK.faultAt(1, open + "x ~> fn y");
        CHECK.faultAt(1, open + "x : ~> [");
        CHECK.faultAt(1, open + "x : t ~> (");
        CHECK.faultAt(1, open + "~> as");
        CHECK.faultAt(5, open + "x ~> handle");
        String decs = times("local", 32);
        CHECK.faultAt(1, decs + "~> let");
        CHECK.faultAt(1, decs + "~> (");
        CHECK.faultAt(1, decs + "val x = y + ~> case");
        CHECK.faultAt(1, decs + "val 1 ~> (");
        CHECK.faultAt(1, decs + "val C x ~> [");
        CHECK.faultAt(1, decs + "val C x ~> as");
        CHECK.faultAt(1, decs + "val x : t : u ~> as");
        CHECK.faultAt(1, decs + "open ~> (");
        CHECK.faultAt(5, decs + "val x ~> as");
        CHECK.faultAt(5, decs + "~> local");
        CHECK.faultAt(5, decs + "~> abstype");
    }

    private static void misplacedBeforeName() {
        CHECK.sentence("Faults: 1 before 6 on one token");
        CHECK.faultAt(1, "val ( true ) ~> as x = 1");
        CHECK.faultAt(1, "val true x ~> as y = 1");
        CHECK.faultAt(1, "val x true ~> as y = 1");
        CHECK.faultAt(1, "val x :: nil ~> as y = 1");
        CHECK.faultAt(1, "val true : t : u ~> as y = 1");
        CHECK.faultAt(1, "val ~> :: as y = 1");
        CHECK.faultAt(1, "val { a = true } ~> as y = 1");
        CHECK.faultAt(1, "val { true : t ~> : u as y } = 1");
        CHECK.faultAt(1, "fun true ~> = 1");
        CHECK.faultAt(1, "fun op = ~> = 1");
        CHECK.faultAt(1, "datatype t = A ~> true");
        CHECK.faultAt(1, "exception E ~> it");
        CHECK.faultAt(1, "val op ~> op = = 1");
        CHECK.faultAt(6, "val true ~> as y = 1");
    }

    private static void misplacedBeforeClause() {
        CHECK.sentence("Faults: 1 before 3 on one token");
        CHECK.faultAt(1, "fun f x = 1 | g ~> = 2");
        CHECK.faultAt(1, "fun f x = 1 | f ~> = 2");
        CHECK.faultAt(1, "fun f x y = 1 | f x : ~> = 2");
        CHECK.faultAt(1, "fun f x = 1 | x + ~> = 2");
        CHECK.faultAt(3, "fun f x = 1 | g x ~> = 2");
    }

    private static void deepBeforeName() {
        CHECK.sentence("Faults: 5 before 6 on one token");
        CHECK.faultAt(5, "val " + times("(", 32) + "true ~> as x");
        CHECK.faultAt(6, "val " + times("(", 31) + "true ~> as x");
        CHECK.faultAt(5, "val " + times("(", 32) + "true : t ~> as x");
        CHECK.faultAt(5, "val " + times("(", 31) + "{ nil ~> as x");
        CHECK.faultAt(6, "val " + times("(", 30) + "{ nil ~> as x");
        CHECK.faultAt(5, "val " + times("(", 32) + "it ~> as x");
    }

    private static void nameBeforeClause() {
        CHECK.sentence("Faults: at the = of a clause 6 before 3");
        CHECK.faultAt(6, "fun f x = 1 | true x ~> = 2");
        CHECK.faultAt(6, "fun f x = 1 | nil x y ~> = 2");
        CHECK.faultAt(6, "fun f x = 1 | x :: y ~> = 2");
        CHECK.faultAt(6, "fun f x = 1 | op = x y ~> = 2");
        CHECK.faultAt(6, "fun f x = 1 | x `= y ~> = 2");
        CHECK.faultAt(3, "fun f x = 1 | it x ~> = 2");
        CHECK.faultAt(3, "fun it x = 1 | it x y ~> = 2");
        CHECK.good("fun it x = 1 | it y = 2");
    }
}
