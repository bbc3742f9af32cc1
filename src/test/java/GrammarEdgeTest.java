/** Edges of the terms' sentences on the grammar: what may be left out, what stands at least once, what goes how far. */
public final class GrammarEdgeTest {
    private static final Check CHECK = new Check();

    public static void main(String[] args) {
        names();
        ids();
        typeConstructors();
        tuples();
        sequences();
        lists();
        records();
        selectors();
        lets();
        applications();
        typedTimes();
        booleans();
        handlers();
        asFarAsTheyCan();
        matches();
        patternRecords();
        appliedPatterns();
        layers();
        types();
        typeArguments();
        typeVariables();
        values();
        heads();
        headsWithBrackets();
        atLeastOnePattern();
        datatypes();
        replications();
        exceptions();
        opens();
        programs();
        CHECK.end("GrammarEdgeTest");
    }

    private static void names() {
        CHECK.sentence("Grammar: a name that is an operator then stands as an ID only behind op");
        CHECK.faultAt(1, "~> +");
        CHECK.good("op +");
        CHECK.faultAt(1, "val ~> + = 1");
        CHECK.good("val op + = 1");
        CHECK.faultAt(1, "x ( ~> + )");
        CHECK.good("x op +");
        CHECK.faultAt(1, "infix f ; ~> f");
        CHECK.good("infix f ; op f");
        CHECK.good("nonfix + ; + ; op +");
        CHECK.good("op x");
        CHECK.faultAt(1, "fun ~> + x = 1");
        CHECK.good("fun op + x = 1");
        CHECK.faultAt(1, "exception E = ~> +");
        CHECK.good("exception E = op +");
        CHECK.faultAt(1, "~> `= x");
        CHECK.good("op `= x");
    }

    private static void ids() {
        CHECK.sentence("Grammar: ID: [op] NAME, or op and the sign = (then name 6), or kind 5");
        CHECK.exp("op =", "=");
        CHECK.exp("op `=", "=");
        CHECK.exp("A.b", "A.b");
        CHECK.faultAt(1, "~> =");
        CHECK.faultAt(1, "op ~> A.b");
        CHECK.faultAt(1, "op ~> op x");
        CHECK.faultAt(1, "op ~> 1");
        CHECK.faultAt(1, "op ~> 'a");
        CHECK.faultAt(1, "op ~> =>");
        CHECK.faultAt(1, "val op ~> A.b = 1");
        CHECK.good("exception E = op = and F = A.b and G = op x");
        CHECK.faultAt(1, "exception E = op ~> A.b");
    }

    private static void typeConstructors() {
        CHECK.sentence("Grammar: TYCON: kind 2, kind 3 but *, or kind 5; short if not kind 5");
        CHECK.good("type t = + and + = `* and `* = `=");
        CHECK.faultAt(1, "type t = ~> *");
        CHECK.faultAt(1, "type ~> * = t");
        CHECK.faultAt(1, "type ~> A.b = t");
        CHECK.good("type t = A.b");
        CHECK.faultAt(1, "datatype ~> * = A");
        CHECK.faultAt(1, "datatype ~> A.b = A");
        CHECK.good("datatype `* = A and + = B");
        CHECK.faultAt(1, "abstype ~> A.b = A");
        CHECK.faultAt(1, "datatype t = datatype ~> *");
        CHECK.good("datatype t = datatype A.b");
        CHECK.good("datatype + = datatype `*");
        CHECK.tree("type t = a `* b", "decs([type([tb(- t t([t([t(- a)] *)] b))])])");
        CHECK.tree("type t = a * b", "decs([type([tb(- t trec([1:(t(- a)) 2:(t(- b))]))])])");
        CHECK.faultAt(1, "type t = ~> =");
        CHECK.faultAt(1, "type t = ~> op u");
        CHECK.good("while x : t do y");
        CHECK.faultAt(1, "x : t ~> 7");
        CHECK.faultAt(1, "x : t ~> 's7");
    }

    private static void tuples() {
        CHECK.sentence("Grammar: ( ) | ( exp ) | ( exp (, exp)+ ), and patterns likewise");
        CHECK.exp("( )", "rec(-)");
        CHECK.exp("( a )", "a");
        CHECK.exp("( a , b )", "rec([1=(a) 2=(b)])");
        CHECK.exp("( a , b , c )", "rec([1=(a) 2=(b) 3=(c)])");
        CHECK.faultAt(1, "( ~> , )");
        CHECK.faultAt(1, "( a , ~> )");
        CHECK.tree("val ( a ) = 1", "decs([val(- [bind(.a 1)])])");
        CHECK.tree("val ( a , b ) = 1", "decs([val(- [bind(prec([.1=(.a) .2=(.b)]) 1)])])");
        CHECK.faultAt(1, "val ( a , ~> ) = 1");
        CHECK.faultAt(1, "val ( ~> , a ) = 1");
    }

    private static void sequences() {
        CHECK.sentence("Grammar: ( exp (; exp)+ )");
        CHECK.exp("( a ; b )", "app(fn([rule(_ b)]) a)");
        CHECK.exp("( a ; b ; c )", "app(fn([rule(_ app(fn([rule(_ c)]) b))]) a)");
        CHECK.faultAt(1, "( a ; ~> )");
        CHECK.faultAt(1, "( ~> ; a )");
        CHECK.faultAt(1, "( a ; b ~> , c )");
        CHECK.faultAt(1, "( a , b ~> ; c )");
        CHECK.faultAt(1, "[ a ~> ; b ]");
        CHECK.faultAt(1, "val ( a ~> ; b ) = 1");
    }

    private static void lists() {
        CHECK.sentence("Grammar: [ ] | [ exp (, exp)* ], and patterns likewise");
        CHECK.exp("[ ]", "nil");
        CHECK.exp("[ a ]", "app(:: rec([1=(a) 2=(nil)]))");
        CHECK.exp("[ a , b ]", "app(:: rec([1=(a) 2=(app(:: rec([1=(b) 2=(nil)])))]))");
        CHECK.faultAt(1, "[ a , ~> ]");
        CHECK.faultAt(1, "[ ~> , ]");
        CHECK.tree("val [ ] = 1", "decs([val(- [bind(.nil 1)])])");
        CHECK.tree("val [ a ] = 1", "decs([val(- [bind(con(:: prec([.1=(.a) .2=(.nil)])) 1)])])");
        CHECK.faultAt(1, "val [ a , ~> ] = 1");
    }

    private static void records() {
        CHECK.sentence("Grammar: { [LABEL = exp (, LABEL = exp)*] }");
        CHECK.exp("{ }", "rec(-)");
        CHECK.exp("{ a = 1 }", "rec([a=(1)])");
        CHECK.exp("{ a = 1 , b = 2 }", "rec([a=(1) b=(2)])");
        CHECK.faultAt(1, "{ a = 1 , ~> }");
        CHECK.faultAt(1, "{ ~> , }");
        CHECK.faultAt(1, "{ a ~> }");
        CHECK.faultAt(1, "{ a = ~> }");
        CHECK.good("{ + = 1 , `= = 2 }");
    }

    private static void selectors() {
        CHECK.sentence("Grammar: # LABEL");
        CHECK.exp("# a", "fn([rule(prec...([.a=(.v0)]) v0)])");
        CHECK.exp("# + x", "app(fn([rule(prec...([.+=(.v0)]) v0)]) x)");
        CHECK.faultAt(1, "# ~> # a");
        CHECK.faultAt(1, "# ~> op a");
        CHECK.faultAt(1, "# ~> =");
        CHECK.good("# `=");
    }

    private static void lets() {
        CHECK.sentence("Grammar: let decs in exp (; exp)* end");
        CHECK.exp("let in a end", "let(decs(-) a)");
        CHECK.exp("let in a ; b end", "let(decs(-) app(fn([rule(_ b)]) a))");
        CHECK.faultAt(1, "let in ~> end");
        CHECK.faultAt(1, "let in a ; ~> end");
        CHECK.faultAt(1, "let ~> a in b end");
        CHECK.faultAt(1, "let ; ~> a in b end");
        CHECK.faultAt(1, "let in a ~> , b end");
    }

    private static void applications() {
        CHECK.sentence("Grammar: application: atomic, or application atomic; infix: applications with an OPERATOR between each two");
        CHECK.exp("a", "a");
        CHECK.exp("a b", "app(a b)");
        CHECK.exp("a b c", "app(app(a b) c)");
        CHECK.faultAt(1, "a + ~>");
        CHECK.faultAt(1, "~> + a");
        CHECK.faultAt(1, "a + ~> + b");
        CHECK.faultAt(1, "a ~> raise b");
        CHECK.faultAt(1, "a + ~> fn x => y");
        CHECK.good("a + b");
        CHECK.good("a b + c d");
    }

    private static void typedTimes() {
        CHECK.sentence("Grammar: typed: infix (: type)*");
        CHECK.exp("a : t", "typed(a t(- t))");
        CHECK.exp("a : t : u", "typed(typed(a t(- t)) t(- u))");
        CHECK.alike("a + b : t", "( a + b ) : t");
        CHECK.faultAt(1, "a : ~>");
        CHECK.faultAt(1, "a : t ~> 1");
        CHECK.faultAt(1, "a : t * b ~> ( c )");
        CHECK.good("( a : t ) 1");
    }

    private static void booleans() {
        CHECK.sentence("Grammar: and: typed, or and andalso operand; or: and, or or orelse operand2");
        CHECK.alike("a andalso b andalso c", "( a andalso b ) andalso c");
        CHECK.alike("a orelse b orelse c", "( a orelse b ) orelse c");
        CHECK.alike("a orelse b andalso c", "a orelse ( b andalso c )");
        CHECK.alike("a andalso b orelse c", "( a andalso b ) orelse c");
        CHECK.alike("a : t andalso b : u", "( a : t ) andalso ( b : u )");
        CHECK.alike("a andalso fn x => b orelse c", "a andalso ( fn x => ( b orelse c ) )");
        CHECK.alike("a orelse raise b andalso c", "a orelse ( raise ( b andalso c ) )");
        CHECK.faultAt(1, "a andalso ~>");
        CHECK.faultAt(1, "a orelse ~> andalso b");
        CHECK.faultAt(1, "~> orelse a");
    }

    private static void handlers() {
        CHECK.sentence("Grammar: exp: or (handle match)*, or a form");
        CHECK.exp("a handle _ => b", "handle(a [rule(_ b)])");
        CHECK.alike("a orelse b handle _ => c", "( a orelse b ) handle _ => c");
        CHECK.alike("a handle _ => b handle _ => c", "a handle _ => ( b handle _ => c )");
        CHECK.alike("( a handle _ => b ) handle _ => c", "( ( a handle _ => b ) ) handle _ => c");
        CHECK.faultAt(1, "~> handle _ => b");
        CHECK.faultAt(1, "a handle ~> => b");
        CHECK.alike("raise a handle _ => b", "raise ( a handle _ => b )");
    }

    private static void asFarAsTheyCan() {
        CHECK.sentence("Grammar: all of these go as far as they can");
        CHECK.alike("raise a b + c : t andalso d", "raise ( ( ( a b + c ) : t ) andalso d )");
        CHECK.alike("if a then b else c d : t orelse e", "if a then b else ( ( c d : t ) orelse e )");
        CHECK.alike("while a do b ; c", "( while a do b ) ; c");
        CHECK.alike("while a do b : t handle _ => c", "while a do ( ( b : t ) handle _ => c )");
        CHECK.alike("fn x => fn y => 1 | z => 2", "fn x => ( fn y => 1 | z => 2 )");
        CHECK.alike("case a of x => case b of y => 1 | z => 2", "case a of x => ( case b of y => 1 | z => 2 )");
        CHECK.alike("a handle x => fn y => 1 | z => 2", "a handle x => ( fn y => 1 | z => 2 )");
        CHECK.alike("if a then if b then c else d else e", "if a then ( if b then c else d ) else e");
        CHECK.alike("val x = a : t -> u * v w", "val x = a : ( t -> ( u * ( v w ) ) )");
        CHECK.faultAt(1, "fun f x = fn y => 1 | f z ~> = 2");
    }

    private static void matches() {
        CHECK.sentence("Grammar: match: pat => exp (| pat => exp)*");
        CHECK.exp("fn x => 1", "fn([rule(.x 1)])");
        CHECK.exp("fn x => 1 | y => 2", "fn([rule(.x 1) rule(.y 2)])");
        CHECK.faultAt(1, "fn ~> | x => 1");
        CHECK.faultAt(1, "fn x => 1 | ~>");
        CHECK.faultAt(1, "fn x ~> -> 1");
        CHECK.faultAt(1, "fn x ~> = 1");
        CHECK.faultAt(1, "case a of ~> | x => 1");
        CHECK.faultAt(1, "( fn x => 1 ) ~> | y => 2");
    }

    private static void patternRecords() {
        CHECK.sentence("Grammar: field: LABEL = pat | NAME [: type] [as pat] | ... as the last one");
        CHECK.tree("val { a } = 1", "decs([val(- [bind(prec([.a=(.a)]) 1)])])");
        CHECK.tree("val { a : t } = 1", "decs([val(- [bind(prec([.a=(ptyped(.a t(- t)))]) 1)])])");
        CHECK.tree("val { a as b } = 1", "decs([val(- [bind(prec([.a=(as(a - .b))]) 1)])])");
        CHECK.tree("val { a : t as b } = 1", "decs([val(- [bind(prec([.a=(as(a t(- t) .b))]) 1)])])");
        CHECK.tree("val { + , :: : t } = 1", "decs([val(- [bind(prec([.::=(ptyped(.:: t(- t))) .+=(.+)]) 1)])])");
        CHECK.good("val { `= , a = `x } = 1");
        CHECK.faultAt(1, "val { a : t ~> : u } = 1");
        CHECK.faultAt(1, "val { ~> op a } = 1");
        CHECK.faultAt(1, "val { 1 ~> } = 1");
        CHECK.faultAt(1, "val { 1 ~> : t } = 1");
        CHECK.faultAt(1, "val { 1 ~> as x } = 1");
        CHECK.faultAt(1, "val { a , ~> } = 1");
        CHECK.faultAt(1, "val { ... ~> , ... } = 1");
        CHECK.faultAt(1, "val { ~> = a } = 1");
        CHECK.good("val { a , ... } = 1");
        CHECK.good("val { ... } = 1");
    }

    private static void appliedPatterns() {
        CHECK.sentence("Grammar: applied: ID atomic | atomic");
        CHECK.tree("val C x = 1", "decs([val(- [bind(con(C .x) 1)])])");
        CHECK.tree("val A.c 1 = 1", "decs([val(- [bind(con(A.c p1) 1)])])");
        CHECK.tree("val op + _ = 1", "decs([val(- [bind(con(+ _) 1)])])");
        CHECK.faultAt(1, "val C x ~> y = 1");
        CHECK.faultAt(1, "val 1 ~> x = 1");
        CHECK.faultAt(1, "val ( C ) ~> x = 1");
        CHECK.faultAt(1, "val _ ~> _ = 1");
        CHECK.good("val C ( D x ) = 1");
        CHECK.good("val C op + = 1");
        CHECK.good("val C x :: D y = 1");
        CHECK.faultAt(1, "val C x :: ~> = 1");
        CHECK.faultAt(1, "val ~> # a = 1");
        CHECK.faultAt(1, "val ~> let in x end = 1");
    }

    private static void layers() {
        CHECK.sentence("Grammar: pat: infix (: type)* | [op] NAME [: type] as pat");
        CHECK.tree("val x as y = 1", "decs([val(- [bind(as(x - .y) 1)])])");
        CHECK.tree("val x : t as y = 1", "decs([val(- [bind(as(x t(- t) .y) 1)])])");
        CHECK.tree("val x as y : t = 1", "decs([val(- [bind(as(x - ptyped(.y t(- t))) 1)])])");
        CHECK.tree("val x : t : u = 1", "decs([val(- [bind(ptyped(ptyped(.x t(- t)) t(- u)) 1)])])");
        CHECK.faultAt(1, "val x : t : u ~> as y = 1");
        CHECK.faultAt(1, "val A.b ~> as y = 1");
        CHECK.faultAt(1, "val 1 ~> as y = 1");
        CHECK.faultAt(1, "val _ : t ~> as y = 1");
        CHECK.faultAt(1, "val ( x ) ~> as y = 1");
        CHECK.faultAt(1, "val C x ~> as y = 1");
        CHECK.faultAt(1, "val x :: y ~> as z = 1");
        CHECK.faultAt(1, "val ~> + as y = 1");
        CHECK.good("val op + as y = 1");
        CHECK.good("val op + : t as y = 1");
        CHECK.good("val op `= as y = 1");
        CHECK.faultAt(1, "val x as ~> = 1");
        CHECK.faultAt(1, "fun f x ~> as y = 1");
        CHECK.good("fun f ( x as y ) = 1");
    }

    private static void types() {
        CHECK.sentence("Grammar: type: product [-> type]; product: applied (* applied)*");
        CHECK.tree("type t = a", "decs([type([tb(- t t(- a))])])");
        CHECK.tree("type t = a -> b", "decs([type([tb(- t arrow(t(- a) t(- b)))])])");
        CHECK.alike("type t = a -> b -> c", "type t = a -> ( b -> c )");
        CHECK.tree("type t = a * b * c", "decs([type([tb(- t trec([1:(t(- a)) 2:(t(- b)) 3:(t(- c))]))])])");
        CHECK.alike("type t = a * b -> c * d", "type t = ( a * b ) -> ( c * d )");
        CHECK.faultAt(1, "type t = a -> ~>");
        CHECK.faultAt(1, "type t = a * ~>");
        CHECK.faultAt(1, "type t = ~> -> a");
        CHECK.faultAt(1, "type t = a * ~> -> b");
    }

    private static void typeArguments() {
        CHECK.sentence("Grammar: ( type ) | TYCON | ( type (, type)+ ) TYCON; and any of these followed by TYCON*");
        CHECK.tree("type t = ( a )", "decs([type([tb(- t t(- a))])])");
        CHECK.tree("type t = ( a ) b", "decs([type([tb(- t t([t(- a)] b))])])");
        CHECK.tree("type t = ( a , b ) c", "decs([type([tb(- t t([t(- a) t(- b)] c))])])");
        CHECK.tree("type t = ( a , b ) c d", "decs([type([tb(- t t([t([t(- a) t(- b)] c)] d))])])");
        CHECK.tree("type t = 'a b c", "decs([type([tb(- t t([t(['a] b)] c))])])");
        CHECK.tree("type t = { } b", "decs([type([tb(- t t([trec(-)] b))])])");
        CHECK.faultAt(1, "type t = ( a , b ) ~>");
        CHECK.faultAt(1, "type t = ( a , b ) ~> * c");
        CHECK.faultAt(1, "type t = ( a , b ) ~> 'c");
        CHECK.faultAt(1, "type t = ( a , ~> ) b");
        CHECK.faultAt(1, "type t = ( ~> ) b");
        CHECK.faultAt(1, "type t = a ~> 'b");
        CHECK.faultAt(1, "type t = a ~> ( b )");
        CHECK.faultAt(1, "type t = { a : b , ~> }");
    }

    private static void typeVariables() {
        CHECK.sentence("Grammar: tyvars: nothing, a type variable, or ( type variables, with , between )");
        for (String word : new String[] {"type", "datatype"}) {
            String rest = " t = A";
            CHECK.good(word + rest);
            CHECK.good(word + " 'a" + rest);
            CHECK.good(word + " ( 'a )" + rest);
            CHECK.good(word + " ( 'a , 'b )" + rest);
            CHECK.faultAt(1, word + " ( ~> )" + rest);
            CHECK.faultAt(1, word + " ( 'a , ~> )" + rest);
            CHECK.faultAt(1, word + " ( 'a ~> 'b )" + rest);
            CHECK.faultAt(1, word + " 'a ~> 'b" + rest);
            CHECK.faultAt(1, word + " ( ~> a )" + rest);
            CHECK.faultAt(1, word + " ~> = A");
            CHECK.faultAt(1, word + " 'a ~> = A");
        }
        CHECK.good("val 'a x = 1");
        CHECK.good("val ( 'a , 'b ) x = 1");
        CHECK.good("val ( ) = 1");
        CHECK.faultAt(1, "val ( 'a , ~> x ) = 1");
        CHECK.faultAt(1, "val ( 'a ) ~> 'b x = 1");
        CHECK.faultAt(1, "val ( x , ~> 'a ) = 1");
        CHECK.good("fun 'a f x = 1");
        CHECK.good("fun ( 'a , 'b ) f x = 1");
        CHECK.faultAt(1, "fun ( 'a ) ( ~> 'b ) f x = 1");
        CHECK.faultAt(1, "fun f x = 1 and ~> 'a g x = 1");
        CHECK.faultAt(1, "val x = 1 and ~> 'a y = 1");
        CHECK.good("type t = u and 'a v = w");
    }

    private static void values() {
        CHECK.sentence("Grammar: val tyvars [rec] pat = exp (and [rec] pat = exp)*, rec may stand several times");
        CHECK.good("val x = 1");
        CHECK.good("val rec x = 1");
        CHECK.good("val rec rec rec x = 1 and rec rec y = 2");
        CHECK.good("val 'a rec x = 1");
        CHECK.faultAt(1, "val rec ~> 'a x = 1");
        CHECK.faultAt(1, "val x = 1 and ~>");
        CHECK.faultAt(1, "val x = 1 and y ~>");
        CHECK.faultAt(1, "val x = 1 ~> rec y = 2");
    }

    private static void heads() {
        CHECK.sentence("Grammar: a head that begins with op has the first form, one that begins with a NAME that is no operator"
            + " the second one when an OPERATOR follows");
        CHECK.alike("fun op f x = 1", "fun f x = 1");
        CHECK.alike("fun x + y = 1", "fun op + ( x , y ) = 1");
        CHECK.faultAt(1, "fun op x ~> + y = 1");
        CHECK.faultAt(1, "fun op f ~> = 1");
        CHECK.faultAt(1, "fun f x ~> + y = 1");
        CHECK.faultAt(1, "fun x + y ~> z = 1");
        CHECK.faultAt(1, "fun x + ~> + y = 1");
        CHECK.alike("fun 1 + _ = 1", "fun op + ( 1 , _ ) = 1");
        CHECK.alike("fun A.b + [ ] = 1", "fun op + ( A.b , [ ] ) = 1");
        CHECK.faultAt(1, "fun A.b ~> x = 1");
        CHECK.faultAt(1, "fun 1 ~> = 1");
        CHECK.alike("infix f fun x f y = 1", "infix f fun op f ( x , y ) = 1");
        CHECK.faultAt(1, "infix f fun ~> f x = 1");
    }

    private static void headsWithBrackets() {
        CHECK.sentence("Grammar: one that begins with ( has the third form when behind that stand an atomic pattern, an OPERATOR,"
            + " an atomic pattern, ) and then no OPERATOR");
        CHECK.alike("fun ( x + y ) = 1", "fun op + ( x , y ) = 1");
        CHECK.alike("fun ( x + y ) z = 1", "fun op + ( x , y ) z = 1");
        CHECK.alike("fun ( x + y ) z w = 1", "fun op + ( x , y ) z w = 1");
        CHECK.alike("fun ( x + y ) - z = 1", "fun op - ( ( op + ( x , y ) ) , z ) = 1");
        CHECK.alike("fun ( x ) - z = 1", "fun op - ( x , z ) = 1");
        CHECK.alike("fun ( x + y - w ) - z = 1", "fun op - ( ( x + y ) - w , z ) = 1");
        CHECK.alike("fun ( C x ) - z = 1", "fun op - ( C x , z ) = 1");
        CHECK.alike("fun ( C x + y ) - z = 1", "fun op - ( C x + y , z ) = 1");
        CHECK.alike("fun ( ( C x ) + [ y ] ) z = 1", "fun op + ( C x , [ y ] ) z = 1");
        CHECK.alike("fun ( op + - op - ) z = 1", "fun op - ( op + , op - ) z = 1");
        CHECK.alike("fun ( 1 + _ ) z = 1", "fun op + ( 1 , _ ) z = 1");
        CHECK.alike("fun ( _ + A.b ) z = 1", "fun op + ( _ , A.b ) z = 1");
        CHECK.alike("fun ( A.b + 's1 ) z = 1", "fun op + ( A.b , 's1 ) z = 1");
        CHECK.alike("fun ( 's1 + 'w1 ) z = 1", "fun op + ( 's1 , 'w1 ) z = 1");
        CHECK.alike("fun ( { a = 1 } + ( ) ) z = 1", "fun op + ( { a = 1 } , ( ) ) z = 1");
        CHECK.faultAt(1, "fun ( x + y - w ) ~> z = 1");
        CHECK.faultAt(1, "fun ( C x + y ) ~> z = 1");
        CHECK.faultAt(1, "fun ( x + C y ) ~> z = 1");
        CHECK.faultAt(1, "fun ( x + y : t ) ~> = 1");
        CHECK.faultAt(1, "fun ( x ) ~> = 1");
        CHECK.faultAt(1, "fun ( x , y ) ~> z = 1");
        CHECK.faultAt(1, "fun ( x + y ) z ~> - w = 1");
        CHECK.faultAt(1, "fun ( ) ~> x = 1");
        CHECK.faultAt(1, "fun ( ( x + y ) ) ~> z = 1");
        CHECK.faultAt(1, "fun ( x + y ~>");
        CHECK.faultAt(1, "fun ( x + y ) ~>");
        CHECK.faultAt(1, "fun ( x + y ~> ] = 1");
        CHECK.faultAt(1, "fun f x ~> + y ) = 1");
        CHECK.faultAt(1, "fun f x ~> + y ) z = 1");
        CHECK.faultAt(1, "fun 1 ~> x + y ) = 1");
        CHECK.faultAt(1, "fun [ x + y ~> ) = 1");
    }

    private static void atLeastOnePattern() {
        CHECK.sentence("Grammar: [op] NAME atomic+ (x+ at least once), ( atomic OPERATOR atomic ) atomic* (x* any number of times)");
        CHECK.faultAt(1, "fun f ~> = 1");
        CHECK.faultAt(1, "fun f ~> : t = 1");
        CHECK.good("fun f x = 1");
        CHECK.good("fun f " + "x ".repeat(40) + "= 1");
        CHECK.good("fun ( x + y ) = 1");
        CHECK.good("fun ( x + y ) " + "z ".repeat(40) + "= 1");
        CHECK.good("fun f x : t = 1");
        CHECK.faultAt(1, "fun f x : t ~> : u = 1");
        CHECK.alike("fun f x : t = 1", "fun f x = 1 : t");
    }

    private static void datatypes() {
        CHECK.sentence("Grammar: datbinds: tyvars TYCON = [op] NAME [of type] (| [op] NAME [of type])*, with and between");
        CHECK.good("datatype t = A");
        CHECK.good("datatype t = A of u | op B | + of v and w = op * of x");
        CHECK.faultAt(1, "datatype t = ~>");
        CHECK.faultAt(1, "datatype t = ~> | A");
        CHECK.faultAt(1, "datatype t = A | ~>");
        CHECK.faultAt(1, "datatype t = A of ~>");
        CHECK.faultAt(1, "datatype t = A ~> B");
        CHECK.faultAt(1, "datatype t = A of u ~> of v");
        CHECK.faultAt(1, "datatype t = A and ~>");
        CHECK.faultAt(1, "datatype t = ~> A.b");
        CHECK.faultAt(1, "datatype t = A withtype ~>");
        CHECK.faultAt(1, "datatype t = A withtype u = v ~> withtype w = x");
        CHECK.faultAt(1, "abstype t = A ~>");
        CHECK.faultAt(1, "abstype t = A with ~>");
        CHECK.faultAt(1, "abstype t = A with ~> 1 end");
        CHECK.good("abstype t = A and u = B withtype v = w with end");
    }

    private static void replications() {
        CHECK.sentence("Grammar: datatype TYCON = datatype TYCON");
        CHECK.good("datatype t = datatype u");
        CHECK.good("datatype t = datatype t");
        CHECK.faultAt(1, "datatype t = datatype ~>");
        CHECK.faultAt(1, "datatype t = datatype u ~> and v = A");
        CHECK.faultAt(1, "datatype t = datatype u ~> withtype v = w");
        CHECK.faultAt(1, "datatype 'a t = ~> datatype u");
        CHECK.faultAt(1, "datatype t = A and u = ~> datatype v");
        CHECK.faultAt(1, "datatype t = datatype u ~> v");
        CHECK.faultAt(1, "abstype t = ~> datatype u");
        CHECK.faultAt(1, "type t = ~> datatype u");
    }

    private static void exceptions() {
        CHECK.sentence("Grammar: exbind: [op] NAME [of type] | [op] NAME = ID");
        CHECK.good("exception E");
        CHECK.good("exception E of t");
        CHECK.good("exception E = F");
        CHECK.good("exception + and op + of t and op - = A.b");
        CHECK.faultAt(1, "exception ~>");
        CHECK.faultAt(1, "exception E of t ~> = F");
        CHECK.faultAt(1, "exception E = F ~> of t");
        CHECK.faultAt(1, "exception E = ~>");
        CHECK.faultAt(1, "exception E ~> F");
        CHECK.faultAt(1, "exception E and ~>");
        CHECK.faultAt(1, "exception ~> A.b");
    }

    private static void opens() {
        CHECK.sentence("Grammar: open (NAME of kind 2, or kind 5)+");
        CHECK.faultAt(1, "open ~>");
        CHECK.good("open a");
        CHECK.good("open a A.b c");
        CHECK.good("open `+ mod");
        CHECK.faultAt(1, "open ~> +");
        CHECK.faultAt(1, "open a ~> `b");
        CHECK.faultAt(1, "open ~> op a");
        CHECK.faultAt(1, "open ~> 'a");
        CHECK.good("open a ; b");
        CHECK.faultAt(1, "open a ~> 1");
    }

    private static void programs() {
        CHECK.sentence("Grammar: program: exp stands only at the beginning or behind ; and before ; or the end");
        CHECK.good("1");
        CHECK.good("; 1");
        CHECK.good("1 ;");
        CHECK.good("1 ; 2 ; ; 3");
        CHECK.good("val x = 1 ; 2 ; val y = 3");
        CHECK.faultAt(1, "1 ~> val x = 1");
        CHECK.faultAt(1, "1 ; 2 ~> val x = 1");
        CHECK.faultAt(1, "open a ~> 1");
        CHECK.faultAt(1, "local in end ~> 1");
        CHECK.faultAt(1, "infix a ~> 1");
        CHECK.faultAt(1, "local in end ~> ( )");
        CHECK.faultAt(1, "1 ~> , 2");
        CHECK.faultAt(1, "1 ~> end");
        CHECK.faultAt(1, "val x = 1 ~> end");
        CHECK.faultAt(1, "~> end");
        CHECK.faultAt(1, "local ~> 1 in end");
        CHECK.faultAt(1, "local ; ~> 1 in end");
        CHECK.faultAt(1, "local in ; ~> 1 end");
        CHECK.faultAt(1, "abstype t = A with ; ~> 1 end");
    }
}
