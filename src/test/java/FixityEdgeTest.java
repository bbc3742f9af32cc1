/** Edges of promises 6 and 7 and of the terms' sentences on fixities: digits, scopes, sides, retreat. */
public final class FixityEdgeTest {
    private static final Check CHECK = new Check();
    private static final String JOINED = "app(f rec([1=(a) 2=(b)]))";
    private static final String APART = "app(app(a f) b)";

    public static void main(String[] args) {
        namesThatAreNone();
        twiceThePrecedence();
        digits();
        noDigit();
        nonfixHasNoDigit();
        fromThereOn();
        upToTheEndOfALet();
        upToTheEndOfALocal();
        allOthersForEver();
        inBothKindsOfNames();
        tighter();
        equalOnes();
        leftAndRight();
        noneThatBindsLess();
        theSignIsNameSix();
        retreatOnce();
        retreatFromNoChange();
        retreatWithoutAParse();
        retreatAcrossAFault();
        retreatLeavesTheTree();
        faultLeavesFixities();
        CHECK.end("FixityEdgeTest");
    }

    private static CoreSyntax after(String text) {
        CoreSyntax x = new CoreSyntax();
        new Text().give(x, text);
        CHECK.due("a fault in " + text, x.parse() == CoreSyntax.NONE, false);
        return x;
    }

    private static int name(String text) {
        return new Text().name(text);
    }

    private static void fixity(String text, String name, int want) {
        CHECK.due(text + ", fixity of " + name, after(text).fixity(name(name)), want);
    }

    private static void namesThatAreNone() {
        CHECK.sentence("Promise 7: NONE for no operator (or no name)");
        CoreSyntax x = after("infix 9 ?0 ?8191");
        CHECK.due("name 0", x.fixity(0), 18);
        CHECK.due("name 8191", x.fixity(8191), 18);
        CHECK.due("name 8190", x.fixity(8190), CoreSyntax.NONE);
        CHECK.due("name 1", x.fixity(1), CoreSyntax.NONE);
        for (int none : new int[] {-1, -2, 8192, 8193, Integer.MIN_VALUE, Integer.MAX_VALUE}) {
            CHECK.due("name " + none, x.fixity(none), CoreSyntax.NONE);
        }
    }

    private static void twiceThePrecedence() {
        CHECK.sentence("Promise 7: twice the precedence, and 1 to the right");
        for (int precedence = 0; precedence <= 9; precedence++) {
            fixity("infix " + precedence + " a", "a", 2 * precedence);
            fixity("infixr " + precedence + " a", "a", 2 * precedence + 1);
            fixity("infixr " + precedence + " a nonfix a", "a", CoreSyntax.NONE);
        }
    }

    private static void digits() {
        CHECK.sentence("Grammar: a digit is kind 6 with a number 0 .. 9");
        for (String word : new String[] {"infix", "infixr"}) {
            CHECK.good(word + " 0 a");
            CHECK.good(word + " 9 a");
            CHECK.faultAt(1, word + " ~> 10 a");
            CHECK.faultAt(1, word + " ~> 9999 a");
            CHECK.faultAt(1, word + " ~> $5 a");
            CHECK.faultAt(1, word + " ~> 'w5 a");
            CHECK.faultAt(1, word + " 5 ~> 5 a");
            CHECK.faultAt(1, word + " 5 ~>");
        }
        fixity("infix 32767#9 a", "a", 18);
        fixity("infix 5#0 a", "a", 0);
        CHECK.faultAt(1, "infix ~> 5#10 a");
    }

    private static void noDigit() {
        CHECK.sentence("Grammar: without one it is 0");
        fixity("infix a", "a", 0);
        fixity("infixr a", "a", 1);
        fixity("infix 1 a", "a", 2);
        fixity("infix 7 a infixr a", "a", 1);
    }

    private static void nonfixHasNoDigit() {
        CHECK.sentence("Grammar: nonfix NAME+ has no digit, and each of the three has at least one NAME");
        CHECK.good("nonfix a");
        CHECK.good("nonfix a b");
        CHECK.faultAt(1, "nonfix ~>");
        CHECK.faultAt(1, "nonfix ~> 0 a");
        CHECK.faultAt(1, "infix ~>");
        CHECK.faultAt(1, "infixr ~> ;");
        CHECK.faultAt(1, "infix 3 ~> val");
        fixity("infix 3 a b", "a", 6);
        fixity("infix 3 a b", "b", 6);
        fixity("nonfix + -", "+", CoreSyntax.NONE);
        fixity("nonfix + -", "-", CoreSyntax.NONE);
        CHECK.faultAt(1, "infix 3 a b ~> = c");
        CHECK.good("infix 3 `= +");
    }

    private static void fromThereOn() {
        CHECK.sentence("Fixity: infix, infixr and nonfix change it from there on");
        CHECK.tree("val x = a f b infix f val y = a f b nonfix f val z = a f b",
            "decs([val(- [bind(.x " + APART + ")]) val(- [bind(.y " + JOINED + ")]) val(- [bind(.z " + APART + ")])])");
        CHECK.tree("val x = a f b infixr 9 f infix 0 f val y = a f b",
            "decs([val(- [bind(.x " + APART + ")]) val(- [bind(.y " + JOINED + ")])])");
        CHECK.faultAt(1, "infix f val x = ~> f");
        CHECK.good("val x = f infix f");
        CHECK.good("nonfix + val x = + a");
        CHECK.faultAt(1, "val x = ~> + a nonfix +");
    }

    private static void upToTheEndOfALet() {
        CHECK.sentence("Fixity: those in the declarations of a let up to its end");
        CHECK.exp("let infix f in a f b end", "let(decs(-) " + JOINED + ")");
        CHECK.exp("let infix f in a f b end f b", "app(app(let(decs(-) " + JOINED + ") f) b)");
        CHECK.exp("let infix f in a f b ; a f b end",
            "let(decs(-) app(fn([rule(_ " + JOINED + ")]) " + JOINED + "))");
        CHECK.tree("infix f ; let nonfix f in a f b end f b",
            "decs([val(- [bind(.it app(f rec([1=(let(decs(-) " + APART + ")) 2=(b)])))])])");
        fixity("let infix 3 a in 1 end", "a", CoreSyntax.NONE);
        fixity("let nonfix + in 1 end", "+", 12);
        fixity("let infix 3 a infix 4 a nonfix a infixr 5 a in 1 end", "a", CoreSyntax.NONE);
        fixity("infix 2 a ; let infix 3 a in let infix 4 a in 1 end end", "a", 4);
        fixity("let local in infix 3 a end in 1 end", "a", CoreSyntax.NONE);
        fixity("let abstype t = A with infix 3 a end in 1 end", "a", CoreSyntax.NONE);
        fixity("local in val x = let infix 3 a in 1 end end", "a", CoreSyntax.NONE);
        fixity("local in val x = let infix 3 a in 1 end infix 4 b end", "a", CoreSyntax.NONE);
        fixity("local in val x = let infix 3 a in 1 end infix 4 b end", "b", 8);
        CHECK.exp("let infix f in let nonfix f in a f b end f b end",
            "let(decs(-) app(f rec([1=(let(decs(-) " + APART + ")) 2=(b)])))");
    }

    private static void upToTheEndOfALocal() {
        CHECK.sentence("Fixity: those in the first part of a local up to its end");
        CHECK.tree("local infix f val x = a f b in val y = a f b end val z = a f b",
            "decs([local(decs([val(- [bind(.x " + JOINED + ")])]) decs([val(- [bind(.y " + JOINED + ")])]))"
                + " val(- [bind(.z " + APART + ")])])");
        fixity("local infix 3 a in end", "a", CoreSyntax.NONE);
        fixity("local nonfix + in end", "+", 12);
        fixity("infix 2 a local infix 3 a in end", "a", 4);
        fixity("local local infix 3 a in infix 4 b end in end", "b", CoreSyntax.NONE);
        fixity("local abstype t = A with infix 3 a end in end", "a", CoreSyntax.NONE);
        fixity("local in local infix 3 a in end end", "a", CoreSyntax.NONE);
        fixity("local in local infix 3 a b in infix 4 c end infix 5 b end", "a", CoreSyntax.NONE);
        fixity("local in local infix 3 a b in infix 4 c end infix 5 b end", "b", 10);
        fixity("local in local infix 3 a b in infix 4 c end infix 5 b end", "c", 8);
        CHECK.faultAt(1, "local infix f in val x = ~> f end");
        CHECK.good("local infix f in end val x = f");
    }

    private static void allOthersForEver() {
        CHECK.sentence("Fixity: all others for ever");
        fixity("infix 3 a", "a", 6);
        fixity("local in infix 3 a end", "a", 6);
        fixity("local infix 2 a in infix 3 a end", "a", 6);
        fixity("local infix 2 a in infix 3 b end", "b", 6);
        fixity("infix 2 a local infix 3 a in nonfix a end", "a", CoreSyntax.NONE);
        fixity("local in local infix 2 b in infix 3 a end end", "a", 6);
        fixity("abstype t = A with infix 3 a end", "a", 6);
        fixity("abstype t = A with local infix 2 b in infix 3 a end end", "a", 6);
        CHECK.tree("local in infix f end val x = a f b",
            "decs([local(decs(-) decs(-)) val(- [bind(.x " + JOINED + ")])])");
        CoreSyntax x = after("infix 3 a");
        new Text().read(x, "val x = 1", false);
        x.clear();
        new Text().read(x, "infix 4 b", false);
        CHECK.due("two parses later", x.fixity(name("a")), 6);
        CHECK.due("what the third changed", x.fixity(name("b")), 8);
    }

    private static void inBothKindsOfNames() {
        CHECK.sentence("Grammar: the same number is the same name in both kinds");
        CHECK.tree("infix f val x = a `f b", "decs([val(- [bind(.x " + JOINED + ")])])");
        CHECK.tree("infix `f val x = a f b", "decs([val(- [bind(.x " + JOINED + ")])])");
        CHECK.alike("val x = a `+ b", "val x = a + b");
        CHECK.good("fun f x = 1 | `f y = 2");
        CHECK.faultAt(2, "{ f = 1 , ~> `f = 2 }");
    }

    private static void tighter() {
        CHECK.sentence("Grammar: higher precedence binds tighter");
        for (int low = 0; low < 9; low++) {
            for (String word : new String[] {"infix", "infixr"}) {
                String ops = "infix " + low + " f " + word + " " + (low + 1) + " g val x = ";
                CHECK.alike(ops + "a f b g c", ops + "a f ( b g c )");
                CHECK.alike(ops + "a g b f c", ops + "( a g b ) f c");
            }
        }
        CHECK.alike("infix 0 f infixr 9 g val x = a f b g c", "infix 0 f infixr 9 g val x = a f ( b g c )");
    }

    private static void equalOnes() {
        CHECK.sentence("Grammar: equal ones to their side");
        for (int precedence = 0; precedence <= 9; precedence++) {
            String left = "infix " + precedence + " f g val x = ";
            CHECK.alike(left + "a f b g c", left + "( a f b ) g c");
            String right = "infixr " + precedence + " f g val x = ";
            CHECK.alike(right + "a f b g c", right + "a f ( b g c )");
        }
    }

    private static void leftAndRight() {
        CHECK.sentence("Grammar: of two with the same precedence one may not be to the left and one to the right");
        for (int precedence = 0; precedence <= 9; precedence++) {
            String ops = "infix " + precedence + " f infixr " + precedence + " g val x = ";
            CHECK.faultAt(4, ops + "a f b ~> g c");
            CHECK.faultAt(4, ops + "a g b ~> f c");
            CHECK.good(ops + "a f ( b g c )");
            CHECK.good(ops + "[ a f b , c g d ]");
        }
        for (int precedence = 0; precedence < 9; precedence++) {
            String ops = "infix " + precedence + " f infixr " + (precedence + 1) + " g val x = ";
            CHECK.good(ops + "a f b g c f d");
            CHECK.good(ops + "a g b f c g d");
        }
        CHECK.faultAt(4, "infix 5 f fun h ( a f b ~> :: c ) = 1");
        CHECK.faultAt(4, "infix 5 f val x = a :: b :: c ~> f d");
    }

    private static void noneThatBindsLess() {
        CHECK.sentence("Grammar: between which none stands that binds less");
        String ops = "infix 5 f infixr 5 g infix 4 low infixr 4 lowr infix 6 high infixr 6 highr val x = ";
        CHECK.good(ops + "a f b low c g d");
        CHECK.good(ops + "a g b lowr c f d");
        CHECK.faultAt(4, ops + "a f b high c ~> g d");
        CHECK.faultAt(4, ops + "a g b highr c ~> f d");
        CHECK.faultAt(4, ops + "a f b f c ~> g d");
        CHECK.faultAt(4, ops + "a low b f c high d ~> g e");
        CHECK.faultAt(4, ops + "a low b f c ~> g d");
        CHECK.faultAt(4, ops + "a high b low c f d ~> lowr e");
        CHECK.good(ops + "a f b low c g d low e f h");
    }

    private static void theSignIsNameSix() {
        CHECK.sentence("Grammar: in expressions also the sign = (as name 6)");
        CHECK.alike("val x = a = b", "val x = a `= b");
        CHECK.alike("infixr 9 `= val x = a = b = c", "infixr 9 `= val x = a = ( b = c )");
        CHECK.alike("val x = a = b = c", "val x = ( a = b ) = c");
        CHECK.faultAt(1, "nonfix `= val x = a ~> = b");
        CHECK.faultAt(1, "val x `= y ~> ; 1");
        CHECK.good("val x `= y = 1");
        CHECK.faultAt(1, "fn x ~> = y => 1");
        CHECK.good("fn x `= y => 1");
        CHECK.faultAt(1, "nonfix `= val x `= ~> y = 1");
    }

    private static void retreatOnce() {
        CHECK.sentence("Promise 6: fixities are as before the last parse() that had no fault, if that is not so already by this");
        CoreSyntax x = after("infix 3 a nonfix + infix 4 a");
        new Text().read(x, "infix 5 a infixr 6 a infix +", false);
        CHECK.due("a before", x.fixity(name("a")), 13);
        CHECK.due("retreat", x.retreat(), true);
        CHECK.due("a then", x.fixity(name("a")), 8);
        CHECK.due("+ then", x.fixity(name("+")), CoreSyntax.NONE);
        CHECK.due("retreat again", x.retreat(), false);
        CHECK.due("a still", x.fixity(name("a")), 8);
        CHECK.due("+ still", x.fixity(name("+")), CoreSyntax.NONE);
        new Text().read(x, "infix 7 a", false);
        CHECK.due("retreat behind one more parse", x.retreat(), true);
        CHECK.due("a is as before that", x.fixity(name("a")), 8);
    }

    private static void retreatFromNoChange() {
        CHECK.sentence("Promise 6: true also if that parse() changed none");
        CoreSyntax x = after("infix 3 a");
        x.parse();
        CHECK.due("retreat from a parse of nothing", x.retreat(), true);
        CHECK.due("a", x.fixity(name("a")), 6);
        CHECK.due("retreat again", x.retreat(), false);
        new Text().read(x, "let nonfix a in 1 end ; local infix 5 a in end", false);
        CHECK.due("retreat from changes that have ended", x.retreat(), true);
        CHECK.due("a still", x.fixity(name("a")), 6);
        new Text().read(x, "infix 3 a", false);
        CHECK.due("retreat from a change to the same", x.retreat(), true);
        CHECK.due("a as it was", x.fixity(name("a")), 6);
    }

    private static void retreatWithoutAParse() {
        CHECK.sentence("Promise 6: false without a parse() without fault since");
        CoreSyntax x = new CoreSyntax();
        CHECK.due("of a new object", x.retreat(), false);
        new Text().read(x, "infix 3 a )", false);
        CHECK.due("behind a fault alone", x.retreat(), false);
        new Text().give(x, "infix 3 a");
        CHECK.due("before the parse", x.retreat(), false);
        x.parse();
        CHECK.due("behind it", x.retreat(), true);
        new Text().read(x, "infix 4 a )", false);
        CHECK.due("behind it and a fault", x.retreat(), false);
        CHECK.due("a", x.fixity(name("a")), CoreSyntax.NONE);
    }

    private static void retreatAcrossAFault() {
        CHECK.sentence("Promise 6: a parse() with a fault between changes nothing of that");
        CoreSyntax x = after("infix 3 a b");
        new Text().read(x, "infix 4 a", false);
        new Text().read(x, "infix 5 a nonfix b infix c )", false);
        new Text().read(x, "nonfix a (", false);
        CHECK.due("a", x.fixity(name("a")), 8);
        CHECK.due("retreat", x.retreat(), true);
        CHECK.due("a then", x.fixity(name("a")), 6);
        CHECK.due("b then", x.fixity(name("b")), 6);
        CHECK.due("c then", x.fixity(name("c")), CoreSyntax.NONE);
        CHECK.due("retreat again", x.retreat(), false);
        new Text().read(x, "infix 9 d", false);
        new Text().read(x, "nonfix d )", false);
        x.retreat();
        x.parse();
        CHECK.due("retreat from a parse of nothing", x.retreat(), true);
        CHECK.due("d is not taken back twice", x.fixity(name("d")), CoreSyntax.NONE);
    }

    private static void retreatLeavesTheTree() {
        CHECK.sentence("Promise 6: retreat() leaves the tree as it is");
        CoreSyntax x = new CoreSyntax();
        Text text = new Text();
        String tree = text.read(x, "infix f ; a f b ; # 1", true);
        int nodes = x.nodes();
        text.give(x, "val");
        CHECK.due("retreat", x.retreat(), true);
        CHECK.due("tree", text.show(x, 0, true), tree);
        CHECK.due("nodes", x.nodes(), nodes);
        CHECK.due("fresh", x.fresh(), 1);
        CHECK.due("tokens", x.tokens(), 1);
        CHECK.due("fault", x.fault(0) + " at " + x.fault(1), "0 at -1");
    }

    private static void faultLeavesFixities() {
        CHECK.sentence("Promise 4: when there is a fault, fixities are as before");
        CoreSyntax x = after("infix 3 a");
        String[] changes = {
            "infix 4 a nonfix + infixr 5 b", "let infix 4 a in let nonfix + in 1",
            "local infix 4 a in nonfix + infixr 5 b", "local nonfix a in infix 5 + end infix 6 b",
            "abstype t = A with infix 4 a nonfix + end", "infix 4 a infix 5 a nonfix a nonfix a"
        };
        for (String text : changes) {
            new Text().give(x, text + " )");
            CHECK.due(text, x.parse(), CoreSyntax.NONE);
            CHECK.due("a behind " + text, x.fixity(name("a")), 6);
            CHECK.due("+ behind " + text, x.fixity(name("+")), 12);
            CHECK.due("b behind " + text, x.fixity(name("b")), CoreSyntax.NONE);
        }
        new Text().give(x, "infix 4 a");
        x.parse();
        CHECK.due("without one it changes", x.fixity(name("a")), 8);
    }
}
