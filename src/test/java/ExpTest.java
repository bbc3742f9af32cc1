/** Promise 4: expressions, their derived forms, and the places of their nodes. */
public final class ExpTest {
    private static final Check CHECK = new Check();

    public static void main(String[] args) {
        atomic();
        records();
        applications();
        operators();
        typed();
        booleans();
        forms();
        sequences();
        lists();
        lets();
        loops();
        programs();
        CHECK.end("ExpTest");
    }

    /** An expression with places, as the only one of a program. */
    private static void placed(String text, String want) {
        CHECK.placed(text, "decs@0([val@0(- [bind@0(.it@0 " + want + ")])])");
    }

    private static void atomic() {
        placed("1", "1@0");
        placed("$7", "7@0");
        placed("'w1", "1@0");
        placed("'c2", "2@0");
        placed("'s3", "3@0");
        placed("x", "x@0");
        placed("op x", "x@0");
        placed("op +", "+@0");
        placed("op =", "=@0");
        placed("A.b", "A.b@0");
        placed("!", "!@0");
        placed("( )", "rec@0(-)");
        placed("( x )", "x@1");
        placed("( ( x ) )", "x@2");
        placed("# 3", "fn@0([rule@0(prec...@0([.3=@0(.v0@0)]) v0@0)])");
        placed("# +", "fn@0([rule@0(prec...@0([.+=@0(.v0@0)]) v0@0)])");
    }

    private static void records() {
        placed("{ }", "rec@0(-)");
        placed("{ a = ( x ) }", "rec@0([a=@1(x@4)])");
        placed("{ b = 1 , 2 = x , a = y , 1 = z }",
            "rec@0([1=@13(z@15) 2=@5(x@7) a=@9(y@11) b=@1(1@3)])");
        CHECK.exp("{ 9999 = a , true = b , 10 = c , 9 = d , it = e }", "rec([9=(d) 10=(c) 9999=(a) true=(b) it=(e)])");
        CHECK.exp("{ `= = x = y }", "rec([==(app(= rec([1=(x) 2=(y)])))])");
        placed("( x , ( y ) , z )", "rec@0([1=@0(x@1) 2=@0(y@4) 3=@0(z@7)])");
        CHECK.alike("( a , b , c )", "{ 1 = a , 2 = b , 3 = c }");
        CHECK.alike("( a , b , c )", "{ 3 = c , 1 = a , 2 = b }");
        CHECK.alike("( )", "{ }");
    }

    private static void applications() {
        placed("f x y", "app@0(app@0(f@0 x@1) y@2)");
        placed("f ( x y )", "app@0(f@0 app@2(x@2 y@3))");
        placed("( f ) x", "app@0(f@1 x@3)");
        placed("( f x ) y", "app@0(app@1(f@1 x@2) y@4)");
        placed("x op + y", "app@0(app@0(x@0 +@1) y@3)");
        CHECK.exp("f { } # 1 [ ] ( ) 3 let in z end",
            "app(app(app(app(app(app(f rec(-)) fn([rule(prec...([.1=(.v0)]) v0)])) nil) rec(-)) 3) let(decs(-) z))");
    }

    private static void operators() {
        placed("x + y", "app@0(+@1 rec@0([1=@0(x@0) 2=@0(y@2)]))");
        placed("( x ) + y", "app@0(+@3 rec@0([1=@0(x@1) 2=@0(y@4)]))");
        placed("x = y", "app@0(=@1 rec@0([1=@0(x@0) 2=@0(y@2)]))");
        placed("x `= y", "app@0(=@1 rec@0([1=@0(x@0) 2=@0(y@2)]))");
        placed("1 - 2 - 3", "app@0(-@3 rec@0([1=@0(app@0(-@1 rec@0([1=@0(1@0) 2=@0(2@2)]))) 2=@0(3@4)]))");
        placed("1 :: 2 @ 3", "app@0(::@1 rec@0([1=@0(1@0) 2=@0(app@2(@@3 rec@2([1=@2(2@2) 2=@2(3@4)])))]))");
        CHECK.alike("a + b * c - d", "( a + ( b * c ) ) - d");
        CHECK.alike("a * b + c div d", "( a * b ) + ( c div d )");
        CHECK.alike("a :: b + c * d :: e", "a :: ( ( b + ( c * d ) ) :: e )");
        CHECK.alike("a = b :: c <> d", "( a = ( b :: c ) ) <> d");
        CHECK.alike("a := b o c before d = e", "( ( a := b ) o c ) before ( d = e )");
        CHECK.alike("f x + g y", "( f x ) + ( g y )");
        CHECK.alike("f x + g y", "op + ( f x , g y )");
        CHECK.alike("infixr 9 ** infix 9 // ; a ** b ** c + d // e // f",
            "infixr 9 ** infix 9 // ; ( a ** ( b ** c ) ) + ( ( d // e ) // f )");
        CHECK.alike("infix 0 f infixr g ; a f b f c ; ( a g b g c )",
            "infix 0 f infixr g ; ( a f b ) f c ; a g ( b g c )");
        CHECK.alike("infix 5 f infixr 5 g ; a f b = c g d", "infix 5 f infixr 5 g ; ( a f b ) = ( c g d )");
        CHECK.alike("infix 5 f infixr 5 g ; a f ( b g c )", "infix 5 f infixr 5 g ; op f ( a , op g ( b , c ) )");
        CHECK.alike("nonfix + ; + x", "nonfix + ; op + x");
        CHECK.alike("infix x ; op x x op x", "infix x ; op x ( op x , op x )");
    }

    private static void typed() {
        placed("x : t", "typed@0(x@0 t@2(- t))");
        placed("( x ) : t : u", "typed@0(typed@0(x@1 t@4(- t)) t@6(- u))");
        placed("( x : t )", "typed@1(x@1 t@3(- t))");
        placed("f x + y : t", "typed@0(app@0(+@2 rec@0([1=@0(app@0(f@0 x@1)) 2=@0(y@3)])) t@5(- t))");
        CHECK.alike("a andalso b : t", "a andalso ( b : t )");
        CHECK.alike("a : t orelse b : t handle c => d", "( ( a : t ) orelse ( b : t ) ) handle c => d");
    }

    private static void booleans() {
        placed("a andalso b", "app@0(fn@0([rule@0(.true@0 b@2) rule@0(.false@0 false@0)]) a@0)");
        placed("( a ) orelse b", "app@0(fn@0([rule@0(.true@0 true@0) rule@0(.false@0 b@4)]) a@1)");
        placed("a orelse b andalso c",
            "app@0(fn@0([rule@0(.true@0 true@0) rule@0(.false@0 app@2(fn@2([rule@2(.true@2 c@4)"
                + " rule@2(.false@2 false@2)]) b@2))]) a@0)");
        CHECK.alike("a andalso b", "if a then b else false");
        CHECK.alike("a orelse b", "if a then true else b");
        CHECK.alike("a andalso b andalso c", "( a andalso b ) andalso c");
        CHECK.alike("a orelse b orelse c", "( a orelse b ) orelse c");
        CHECK.alike("a andalso b orelse c andalso d orelse e", "( ( a andalso b ) orelse ( c andalso d ) ) orelse e");
        CHECK.alike("a andalso raise b orelse c", "a andalso ( raise ( b orelse c ) )");
        CHECK.alike("a orelse fn x => b andalso c", "a orelse ( fn x => ( b andalso c ) )");
        CHECK.alike("a orelse if b then c else d : t", "a orelse ( if b then c else ( d : t ) )");
    }

    private static void forms() {
        placed("raise x y", "raise@0(app@1(x@1 y@2))");
        placed("if a then b else c", "app@0(fn@0([rule@0(.true@0 b@3) rule@0(.false@0 c@5)]) a@1)");
        placed("case ( x ) of ( a ) => b | _ => c", "app@0(fn@0([rule@5(.a@6 b@9) rule@11(_@11 c@13)]) x@2)");
        placed("fn x => y", "fn@0([rule@1(.x@1 y@3)])");
        placed("( a ) handle ( p ) => b", "handle@0(a@1 [rule@4(.p@5 b@8)])");
        CHECK.alike("case e of x => y | z => w", "( fn x => y | z => w ) e");
        CHECK.alike("if a then b else c", "case a of true => b | false => c");
        CHECK.alike("fn x => fn y => z | w => u", "fn x => ( fn y => z | w => u )");
        CHECK.alike("a handle p => b handle q => c", "a handle p => ( b handle q => c )");
        CHECK.alike("raise x handle p => q", "raise ( x handle p => q )");
        CHECK.alike("if a then b else c handle p => q", "if a then b else ( c handle p => q )");
        CHECK.alike("( raise x ) handle p => q", "( ( raise x ) ) handle p => q");
        CHECK.alike("if if a then b else c then raise d else fn e => f", "if ( if a then b else c ) then ( raise d ) else ( fn e => f )");
        CHECK.alike("a orelse b handle p => c | q => d", "( a orelse b ) handle p => c | q => d");
        CHECK.alike("case a of b => case c of d => e | f => g", "case a of b => ( case c of d => e | f => g )");
    }

    private static void sequences() {
        placed("( a ; b ; c )",
            "app@0(fn@0([rule@0(_@0 app@0(fn@0([rule@0(_@0 c@5)]) b@3))]) a@1)");
        CHECK.alike("( a ; b )", "case a of _ => b");
        CHECK.alike("( a ; b ; c )", "case a of _ => ( b ; c )");
        CHECK.alike("( a ; ( b , c ) ; ( d ) )", "case a of _ => case ( b , c ) of _ => d");
    }

    private static void lists() {
        placed("[ ]", "nil@0");
        placed("[ ( x ) ]", "app@0(::@0 rec@0([1=@0(x@2) 2=@0(nil@0)]))");
        placed("[ 1 , x ]",
            "app@0(::@0 rec@0([1=@0(1@1) 2=@0(app@0(::@0 rec@0([1=@0(x@3) 2=@0(nil@0)])))]))");
        CHECK.alike("[ a , b , c ]", "a :: b :: c :: nil");
        CHECK.alike("nonfix :: ; [ a , b ]", "nonfix :: ; :: ( a , :: ( b , nil ) )");
        CHECK.alike("[ [ ] , [ a ] ]", "nil :: ( a :: nil ) :: nil");
    }

    private static void lets() {
        placed("let in ( a ) end", "let@0(decs@1(-) a@3)");
        placed("let ; ; val x = 1 ; in a ; b end",
            "let@0(decs@1([val@3(- [bind@4(.x@4 1@6)])]) app@0(fn@0([rule@0(_@0 b@11)]) a@9))");
        CHECK.alike("let val x = 1 in a ; b ; c end", "let val x = 1 in ( a ; b ; c ) end");
        CHECK.alike("let infix 3 f in a f b end", "let in op f ( a , b ) end");
    }

    private static void loops() {
        placed("while a do b", "let@0(decs@0([val@0(- [bindrec@0(.v0@0 fn@0([rule@0(prec@0(-) app@0(fn@0(["
            + "rule@0(.true@0 app@0(fn@0([rule@0(_@0 app@0(v0@0 rec@0(-)))]) b@3))"
            + " rule@0(.false@0 rec@0(-))]) a@1))]))])]) app@0(v0@0 rec@0(-)))");
        CHECK.tree("while # 1 do # 2 ; # 3", "decs([val(- [bind(.it let(decs([val(- [bindrec(.v0 fn([rule(prec(-)"
            + " app(fn([rule(.true app(fn([rule(_ app(v0 rec(-)))]) fn([rule(prec...([.2=(.v1)]) v1)])))"
            + " rule(.false rec(-))]) fn([rule(prec...([.1=(.v2)]) v2)])))]))])]) app(v0 rec(-))))])"
            + " val(- [bind(.it fn([rule(prec...([.3=(.v3)]) v3)]))])])");
        CHECK.exp("{ b = # 1 , a = # 2 }",
            "rec([a=(fn([rule(prec...([.2=(.v0)]) v0)])) b=(fn([rule(prec...([.1=(.v1)]) v1)]))])");
        CHECK.exp("case # 1 of x => # 2",
            "app(fn([rule(.x fn([rule(prec...([.2=(.v0)]) v0)]))]) fn([rule(prec...([.1=(.v1)]) v1)]))");
    }

    private static void programs() {
        CHECK.placed("", "decs@0(-)");
        CHECK.placed("; ;", "decs@0(-)");
        CHECK.placed("; ( x ) ; y", "decs@0([val@1(- [bind@1(.it@1 x@2)]) val@5(- [bind@5(.it@5 y@5)])])");
        CHECK.placed("x ; val y = 1 val z = 2 ; ; w ;", "decs@0([val@0(- [bind@0(.it@0 x@0)])"
            + " val@2(- [bind@3(.y@3 1@5)]) val@6(- [bind@7(.z@7 2@9)]) val@12(- [bind@12(.it@12 w@12)])])");
        CHECK.fault("x val y = 1", 1, 1);
        CHECK.fault("val y = 1 ; x y val z = 2", 1, 7);
        CHECK.fault("infix a 1", 1, 2);
        CHECK.fault("( x ; )", 1, 3);
        CHECK.fault("let in x ; end", 1, 4);
        CHECK.fault("let x in y end", 1, 1);
        CHECK.fault("let val x = 1 ; y in z end", 1, 6);
    }
}
