/** The terms' sentences on derived forms: each with its least number of parts, with one more, and with places. */
public final class DerivedEdgeTest {
    private static final Check CHECK = new Check();

    public static void main(String[] args) {
        empties();
        tuples();
        selectors();
        cases();
        conditions();
        sequences();
        lets();
        loops();
        lists();
        operators();
        patterns();
        fields();
        products();
        functionsOfOne();
        functionsOfMore();
        typedClauses();
        operatorHeads();
        programExps();
        placesOfOperators();
        CHECK.end("DerivedEdgeTest");
    }

    /** An expression behind val x =, so that its first token has the place 3. */
    private static void exp(String text, String want) {
        CHECK.placed("val x = " + text, "decs@0([val@0(- [bind@1(.x@1 " + want + ")])])");
    }

    private static void pat(String text, String want) {
        int place = new Text().tokens(text).length + 2;
        CHECK.placed("val " + text + " = 1", "decs@0([val@0(- [bind@1(" + want + " 1@" + place + ")])])");
    }

    private static void empties() {
        CHECK.sentence("Derived forms: ( ) is { }");
        exp("( )", "rec@3(-)");
        exp("{ }", "rec@3(-)");
        CHECK.alike("( )", "{ }");
        pat("( )", "prec@1(-)");
    }

    private static void tuples() {
        CHECK.sentence("Derived forms: (e1, .., en) is {1 = e1, .., n = en}");
        exp("( a )", "a@4");
        exp("( a , b )", "rec@3([1=@3(a@4) 2=@3(b@6)])");
        exp("( a , ( b ) , c )", "rec@3([1=@3(a@4) 2=@3(b@7) 3=@3(c@10)])");
        CHECK.alike("( a , b )", "{ 2 = b , 1 = a }");
        exp("{ 1 = a , 2 = b }", "rec@3([1=@4(a@6) 2=@8(b@10)])");
    }

    private static void selectors() {
        CHECK.sentence("Derived forms: # l is fn {l = v, ...} => v");
        exp("# 1", "fn@3([rule@3(prec...@3([.1=@3(.v0@3)]) v0@3)])");
        exp("# a b", "app@3(fn@3([rule@3(prec...@3([.a=@3(.v0@3)]) v0@3)]) b@5)");
    }

    private static void cases() {
        CHECK.sentence("Derived forms: case e of m is (fn m) e");
        exp("case a of b => c", "app@3(fn@3([rule@6(.b@6 c@8)]) a@4)");
        exp("case ( a ) of ( b ) => c | _ => d", "app@3(fn@3([rule@8(.b@9 c@12) rule@14(_@14 d@16)]) a@5)");
        CHECK.alike("case a of b => c", "( fn b => c ) a");
    }

    private static void conditions() {
        CHECK.sentence("Derived forms: if a then b else c is case a of true => b | false => c; orelse, andalso by if");
        exp("if a then b else c", "app@3(fn@3([rule@3(.true@3 b@6) rule@3(.false@3 c@8)]) a@4)");
        exp("a orelse b", "app@3(fn@3([rule@3(.true@3 true@3) rule@3(.false@3 b@5)]) a@3)");
        exp("a andalso b", "app@3(fn@3([rule@3(.true@3 b@5) rule@3(.false@3 false@3)]) a@3)");
        exp("( a ) andalso b", "app@3(fn@3([rule@3(.true@3 b@7) rule@3(.false@3 false@3)]) a@4)");
        exp("a orelse b orelse c", "app@3(fn@3([rule@3(.true@3 true@3) rule@3(.false@3 c@7)])"
            + " app@3(fn@3([rule@3(.true@3 true@3) rule@3(.false@3 b@5)]) a@3))");
        exp("a orelse b andalso c", "app@3(fn@3([rule@3(.true@3 true@3) rule@3(.false@3"
            + " app@5(fn@5([rule@5(.true@5 c@7) rule@5(.false@5 false@5)]) b@5))]) a@3)");
        CHECK.alike("if a then b else c", "case a of true => b | false => c");
        CHECK.alike("a orelse b", "if a then true else b");
        CHECK.alike("a andalso b", "if a then b else false");
        CHECK.alike("infix true false ; a andalso b orelse c",
            "infix true false ; if ( if a then b else op false ) then op true else c");
    }

    private static void sequences() {
        CHECK.sentence("Derived forms: (e1; ..; en) is case e1 of _ => (e2; ..; en)");
        exp("( a ; b )", "app@3(fn@3([rule@3(_@3 b@6)]) a@4)");
        exp("( a ; b ; c )", "app@3(fn@3([rule@3(_@3 app@3(fn@3([rule@3(_@3 c@8)]) b@6))]) a@4)");
        CHECK.alike("( a ; b ; c )", "case a of _ => case b of _ => c");
    }

    private static void lets() {
        CHECK.sentence("Derived forms: let d in e1; ..; en end is let d in (e1; ..; en) end");
        exp("let in a end", "let@3(decs@4(-) a@5)");
        exp("let in a ; b end", "let@3(decs@4(-) app@3(fn@3([rule@3(_@3 b@7)]) a@5))");
        exp("let in ( a ; b ) end", "let@3(decs@4(-) app@5(fn@5([rule@5(_@5 b@8)]) a@6))");
        CHECK.alike("let in a ; b ; c end", "let in ( a ; b ; c ) end");
    }

    private static void loops() {
        CHECK.sentence("Derived forms: while a do b is let val rec v = fn ( ) => if a then (b; v ( )) else ( ) in v ( ) end");
        exp("while a do b", "let@3(decs@3([val@3(- [bindrec@3(.v0@3 fn@3([rule@3(prec@3(-) app@3(fn@3(["
            + "rule@3(.true@3 app@3(fn@3([rule@3(_@3 app@3(v0@3 rec@3(-)))]) b@6))"
            + " rule@3(.false@3 rec@3(-))]) a@4))]))])]) app@3(v0@3 rec@3(-)))");
        CHECK.tree("while a do while b do c", "decs([val(- [bind(.it let(decs([val(- [bindrec(.v0 fn([rule(prec(-)"
            + " app(fn([rule(.true app(fn([rule(_ app(v0 rec(-)))])"
            + " let(decs([val(- [bindrec(.v1 fn([rule(prec(-) app(fn([rule(.true app(fn([rule(_ app(v1 rec(-)))]) c))"
            + " rule(.false rec(-))]) b))]))])]) app(v1 rec(-)))))"
            + " rule(.false rec(-))]) a))]))])]) app(v0 rec(-))))])])");
    }

    private static void lists() {
        CHECK.sentence("Derived forms: [ ] is nil, [e1, ..] is e1 :: [..]");
        exp("[ ]", "nil@3");
        exp("[ a ]", "app@3(::@3 rec@3([1=@3(a@4) 2=@3(nil@3)]))");
        exp("[ a , b ]", "app@3(::@3 rec@3([1=@3(a@4) 2=@3(app@3(::@3 rec@3([1=@3(b@6) 2=@3(nil@3)])))]))");
        CHECK.alike("[ a , b ]", "a :: b :: nil");
        CHECK.alike("nonfix :: infix nil ; [ a ]", "nonfix :: infix nil ; :: ( a , op nil )");
    }

    private static void operators() {
        CHECK.sentence("Derived forms: e1 f e2 is f (e1, e2)");
        exp("a + b", "app@3(+@4 rec@3([1=@3(a@3) 2=@3(b@5)]))");
        exp("a = b", "app@3(=@4 rec@3([1=@3(a@3) 2=@3(b@5)]))");
        CHECK.alike("a + b", "op + ( a , b )");
        CHECK.alike("a = b", "op = ( a , b )");
        CHECK.alike("a + b", "op + { 1 = a , 2 = b }");
        CHECK.alike("infixr 9 true ; a + b", "infixr 9 true ; op + ( a , b )");
        CHECK.alike("infixr 9 true ; fn a + b => 1", "infixr 9 true ; fn op + ( a , b ) => 1");
    }

    private static void patterns() {
        CHECK.sentence("Derived forms: patterns likewise (an operator gives PCON)");
        pat("( a , b )", "prec@1([.1=@1(.a@2) .2=@1(.b@4)])");
        pat("[ ]", ".nil@1");
        pat("[ a ]", "con@1(:: prec@1([.1=@1(.a@2) .2=@1(.nil@1)]))");
        pat("[ a , b ]", "con@1(:: prec@1([.1=@1(.a@2) .2=@1(con@1(:: prec@1([.1=@1(.b@4) .2=@1(.nil@1)])))]))");
        pat("a + b", "con@1(+ prec@1([.1=@1(.a@1) .2=@1(.b@3)]))");
        pat("a `= b", "con@1(= prec@1([.1=@1(.a@1) .2=@1(.b@3)]))");
        pat("( a ) :: b", "con@1(:: prec@1([.1=@1(.a@2) .2=@1(.b@5)]))");
        pat("a :: b :: c", "con@1(:: prec@1([.1=@1(.a@1) .2=@1(con@3(:: prec@3([.1=@3(.b@3) .2=@3(.c@5)])))]))");
        pat("a + b + c", "con@1(+ prec@1([.1=@1(con@1(+ prec@1([.1=@1(.a@1) .2=@1(.b@3)]))) .2=@1(.c@5)]))");
    }

    private static void fields() {
        CHECK.sentence("Derived forms: NAME [: t] [as p] as a field is the label, and NAME, NAME : t, NAME as p or NAME : t as p");
        pat("{ a }", "prec@1([.a=@2(.a@2)])");
        pat("{ a : t }", "prec@1([.a=@2(ptyped@2(.a@2 t@4(- t)))])");
        pat("{ a as p }", "prec@1([.a=@2(as@2(a - .p@4))])");
        pat("{ a : t as p }", "prec@1([.a=@2(as@2(a t@4(- t) .p@6))])");
        pat("{ a = a }", "prec@1([.a=@2(.a@4)])");
    }

    private static void products() {
        CHECK.sentence("Derived forms: t1 * .. * tn is {1 : t1, .., n : tn}");
        CHECK.placed("type t = a", "decs@0([type@0([tb@1(- t t@3(- a))])])");
        CHECK.placed("type t = a * b", "decs@0([type@0([tb@1(- t trec@3([1:@3(t@3(- a)) 2:@3(t@5(- b))]))])])");
        CHECK.placed("type t = ( a ) * b * c",
            "decs@0([type@0([tb@1(- t trec@3([1:@3(t@4(- a)) 2:@3(t@7(- b)) 3:@3(t@9(- c))]))])])");
        CHECK.alike("type t = a * b", "type t = { 2 : b , 1 : a }");
    }

    private static void functionsOfOne() {
        CHECK.sentence("Derived forms: fun .. for n = 1 case v1 of p11 => e1 | ..");
        CHECK.placed("fun f a = b", "decs@0([val@0(- [bindrec@1(.f@1 fn@1([rule@1(.v0@1 app@1(fn@1(["
            + "rule@1(.a@2 b@4)]) v0@1))]))])])");
        CHECK.placed("fun f a = b | f ( c ) = d", "decs@0([val@0(- [bindrec@1(.f@1 fn@1([rule@1(.v0@1 app@1(fn@1(["
            + "rule@1(.a@2 b@4) rule@6(.c@8 d@11)]) v0@1))]))])])");
        CHECK.placed("fun f ( ) = b", "decs@0([val@0(- [bindrec@1(.f@1 fn@1([rule@1(.v0@1 app@1(fn@1(["
            + "rule@1(prec@2(-) b@5)]) v0@1))]))])])");
    }

    private static void functionsOfMore() {
        CHECK.sentence("Derived forms: fun f p11 .. p1n = e1 | .. is val rec f = fn v1 => .. fn vn => case (v1, .., vn) of (p11, .., p1n) => e1 | ..");
        CHECK.placed("fun f a b = c", "decs@0([val@0(- [bindrec@1(.f@1 fn@1([rule@1(.v0@1 fn@1([rule@1(.v1@1 app@1(fn@1(["
            + "rule@1(prec@1([.1=@1(.a@2) .2=@1(.b@3)]) c@5)]) rec@1([1=@1(v0@1) 2=@1(v1@1)])))]))]))])])");
        CHECK.placed("fun f a b = c | op f 1 _ = d", "decs@0([val@0(- [bindrec@1(.f@1 fn@1([rule@1(.v0@1 fn@1([rule@1(.v1@1"
            + " app@1(fn@1([rule@1(prec@1([.1=@1(.a@2) .2=@1(.b@3)]) c@5) rule@7(prec@7([.1=@7(p1@9) .2=@7(_@10)]) d@12)])"
            + " rec@1([1=@1(v0@1) 2=@1(v1@1)])))]))]))])])");
        CHECK.placed("fun f a b c = d", "decs@0([val@0(- [bindrec@1(.f@1 fn@1([rule@1(.v0@1 fn@1([rule@1(.v1@1 fn@1(["
            + "rule@1(.v2@1 app@1(fn@1([rule@1(prec@1([.1=@1(.a@2) .2=@1(.b@3) .3=@1(.c@4)]) d@6)])"
            + " rec@1([1=@1(v0@1) 2=@1(v1@1) 3=@1(v2@1)])))]))]))]))])])");
        CHECK.placed("fun 'a f x = y and g z = w", "decs@0([val@0(['a@1] [bindrec@2(.f@2 fn@2([rule@2(.v0@2"
            + " app@2(fn@2([rule@2(.x@3 y@5)]) v0@2))])) bindrec@7(.g@7 fn@7([rule@7(.v1@7"
            + " app@7(fn@7([rule@7(.z@8 w@10)]) v1@7))]))])])");
    }

    private static void typedClauses() {
        CHECK.sentence("Derived forms: ei being typed, at the place of ei, when : ti stands there");
        CHECK.placed("fun f a : t = b c", "decs@0([val@0(- [bindrec@1(.f@1 fn@1([rule@1(.v0@1 app@1(fn@1(["
            + "rule@1(.a@2 typed@6(app@6(b@6 c@7) t@4(- t)))]) v0@1))]))])])");
        CHECK.placed("fun f a = b | f c : t = d : u", "decs@0([val@0(- [bindrec@1(.f@1 fn@1([rule@1(.v0@1 app@1(fn@1(["
            + "rule@1(.a@2 b@4) rule@6(.c@7 typed@11(typed@11(d@11 t@13(- u)) t@9(- t)))]) v0@1))]))])])");
        CHECK.alike("fun f a : t = raise b", "fun f a = ( raise b ) : t");
    }

    private static void operatorHeads() {
        CHECK.sentence("Derived forms: a head with an OPERATOR f has (p, q) as its first pattern");
        CHECK.placed("fun a + b = c", "decs@0([val@0(- [bindrec@1(.+@1 fn@1([rule@1(.v0@1 app@1(fn@1(["
            + "rule@1(prec@1([.1=@1(.a@1) .2=@1(.b@3)]) c@5)]) v0@1))]))])])");
        CHECK.placed("fun f x = 1 and ( a + b ) c = d", "decs@0([val@0(- [bindrec@1(.f@1 fn@1([rule@1(.v0@1 app@1(fn@1(["
            + "rule@1(.x@2 1@4)]) v0@1))])) bindrec@6(.+@6 fn@6([rule@6(.v1@6 fn@6([rule@6(.v2@6 app@6(fn@6(["
            + "rule@6(prec@6([.1=@6(prec@6([.1=@6(.a@7) .2=@6(.b@9)])) .2=@6(.c@11)]) d@13)])"
            + " rec@6([1=@6(v1@6) 2=@6(v2@6)])))]))]))])])");
        CHECK.alike("fun a + b = c | ( d + e ) = f", "fun op + ( a , b ) = c | op + ( d , e ) = f");
    }

    private static void programExps() {
        CHECK.sentence("The tree: an exp in the program is VAL of PNAME it = exp");
        CHECK.placed("a", "decs@0([val@0(- [bind@0(.it@0 a@0)])])");
        CHECK.placed("; ( a ) ; b", "decs@0([val@1(- [bind@1(.it@1 a@2)]) val@5(- [bind@5(.it@5 b@5)])])");
        CHECK.alike("a ; b", "val it = a val it = b");
    }

    private static void placesOfOperators() {
        CHECK.sentence("The tree: what a derived form adds has the place of the form's first token, with operators in operators");
        exp("a + b + c", "app@3(+@6 rec@3([1=@3(app@3(+@4 rec@3([1=@3(a@3) 2=@3(b@5)]))) 2=@3(c@7)]))");
        exp("a :: b :: c", "app@3(::@4 rec@3([1=@3(a@3) 2=@3(app@5(::@6 rec@5([1=@5(b@5) 2=@5(c@7)])))]))");
        exp("a + b * c", "app@3(+@4 rec@3([1=@3(a@3) 2=@3(app@5(*@6 rec@5([1=@5(b@5) 2=@5(c@7)])))]))");
        exp("a * b + c", "app@3(+@6 rec@3([1=@3(app@3(*@4 rec@3([1=@3(a@3) 2=@3(b@5)]))) 2=@3(c@7)]))");
        exp("a * b + c * d", "app@3(+@6 rec@3([1=@3(app@3(*@4 rec@3([1=@3(a@3) 2=@3(b@5)])))"
            + " 2=@3(app@7(*@8 rec@7([1=@7(c@7) 2=@7(d@9)])))]))");
        exp("a :: b + c :: d", "app@3(::@4 rec@3([1=@3(a@3) 2=@3(app@5(::@8 rec@5([1=@5(app@5(+@6 rec@5([1=@5(b@5) 2=@5(c@7)])))"
            + " 2=@5(d@9)])))]))");
        exp("f a + ( g ) b", "app@3(+@5 rec@3([1=@3(app@3(f@3 a@4)) 2=@3(app@6(g@7 b@9))]))");
        exp("a = b + c : t", "typed@3(app@3(=@4 rec@3([1=@3(a@3) 2=@3(app@5(+@6 rec@5([1=@5(b@5) 2=@5(c@7)])))])) t@9(- t))");
        exp("[ a + b , c ]", "app@3(::@3 rec@3([1=@3(app@4(+@5 rec@4([1=@4(a@4) 2=@4(b@6)])))"
            + " 2=@3(app@3(::@3 rec@3([1=@3(c@8) 2=@3(nil@3)])))]))");
    }
}
