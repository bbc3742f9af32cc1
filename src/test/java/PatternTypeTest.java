/** Promise 4: patterns and types, and the places of their nodes. */
public final class PatternTypeTest {
    private static final Check CHECK = new Check();

    public static void main(String[] args) {
        atomicPatterns();
        recordPatterns();
        appliedPatterns();
        layeredPatterns();
        types();
        CHECK.end("PatternTypeTest");
    }

    private static void pat(String text, String want) {
        String rest = " = 1";
        int place = new Text().tokens(text).length + 2;
        CHECK.placed("val " + text + rest, "decs@0([val@0(- [bind@1(" + want + " 1@" + place + ")])])");
    }

    private static void type(String text, String want) {
        CHECK.placed("type t = " + text, "decs@0([type@0([tb@1(- t " + want + ")])])");
    }

    private static void atomicPatterns() {
        pat("_", "_@1");
        pat("1", "p1@1");
        pat("$9", "p9@1");
        pat("'s4", "p4@1");
        pat("x", ".x@1");
        pat("op x", ".x@1");
        pat("op +", ".+@1");
        pat("A.b", ".A.b@1");
        pat("true", ".true@1");
        pat("( )", "prec@1(-)");
        pat("( x )", ".x@2");
        pat("( ( a ) , b )", "prec@1([.1=@1(.a@3) .2=@1(.b@6)])");
        pat("[ ]", ".nil@1");
        pat("[ c , ( d ) ]", "con@1(:: prec@1([.1=@1(.c@2) .2=@1(con@1(:: prec@1([.1=@1(.d@5) .2=@1(.nil@1)])))]))");
    }

    private static void recordPatterns() {
        pat("{ }", "prec@1(-)");
        pat("{ ... }", "prec...@1(-)");
        pat("{ b = ( x ) , 1 = y }", "prec@1([.1=@8(.y@10) .b=@2(.x@5)])");
        pat("{ b , a , ... }", "prec...@1([.a=@4(.a@4) .b=@2(.b@2)])");
        pat("{ a : t }", "prec@1([.a=@2(ptyped@2(.a@2 t@4(- t)))])");
        pat("{ a as ( b ) }", "prec@1([.a=@2(as@2(a - .b@5))])");
        pat("{ a : t as b }", "prec@1([.a=@2(as@2(a t@4(- t) .b@6))])");
        pat("{ a = b as c : t }", "prec@1([.a=@2(as@4(b - ptyped@6(.c@6 t@8(- t))))])");
        pat("{ + , :: : t }", "prec@1([.::=@4(ptyped@4(.::@4 t@6(- t))) .+=@2(.+@2)])");
        pat("{ + as x }", "prec@1([.+=@2(as@2(+ - .x@4))])");
        pat("{ + = x }", "prec@1([.+=@2(.x@4)])");
        CHECK.alike("val { a , b : t , c as d , e : t as f } = 1",
            "val { a = a , b = b : t , c = c as d , e = e : t as f } = 1");
        CHECK.fault("val { op a } = 1", 1, 2);
        CHECK.fault("val { a : t : u } = 1", 1, 5);
        CHECK.fault("val { ... , a } = 1", 1, 3);
        CHECK.fault("val { A.b } = 1", 1, 2);
        CHECK.fault("val { 1 } = 1", 1, 3);
        CHECK.fault("val { a b } = 1", 1, 3);
    }

    private static void appliedPatterns() {
        pat("f _", "con@1(f _@2)");
        pat("A.b ( c )", "con@1(A.b .c@3)");
        pat("op :: ( a , b )", "con@1(:: prec@3([.1=@3(.a@4) .2=@3(.b@6)]))");
        pat("f op g", "con@1(f .g@2)");
        pat("( a ) :: b", "con@1(:: prec@1([.1=@1(.a@2) .2=@1(.b@5)]))");
        pat("f x :: g y", "con@1(:: prec@1([.1=@1(con@1(f .x@2)) .2=@1(con@4(g .y@5))]))");
        pat("x `= y", "con@1(= prec@1([.1=@1(.x@1) .2=@1(.y@3)]))");
        pat("x : t : u", "ptyped@1(ptyped@1(.x@1 t@3(- t)) t@5(- u))");
        CHECK.alike("val a :: b + c * d :: e = 1", "val a :: ( ( b + ( c * d ) ) :: e ) = 1");
        CHECK.alike("val a - b - c = 1", "val ( a - b ) - c = 1");
        CHECK.alike("val a - b = 1", "val op - ( a , b ) = 1");
        CHECK.alike("val [ a , b ] = 1", "val a :: b :: nil = 1");
        CHECK.alike("val [ ] = 1", "val nil = 1");
        CHECK.fault("val f x y = 1", 1, 3);
        CHECK.fault("val ( f ) x = 1", 1, 4);
        CHECK.fault("val 1 x = 1", 1, 2);
        CHECK.fault("val + x = 1", 1, 1);
        CHECK.fault("infixr 4 a val x a y `= z = 1", 4, 7);
    }

    private static void layeredPatterns() {
        pat("x as y", "as@1(x - .y@3)");
        pat("op x : t as ( y )", "as@1(x t@4(- t) .y@7)");
        pat("op + as y", "as@1(+ - .y@4)");
        pat("x as y as z", "as@1(x - as@3(y - .z@5))");
        pat("x as y :: z : t", "as@1(x - ptyped@3(con@3(:: prec@3([.1=@3(.y@3) .2=@3(.z@5)])) t@7(- t)))");
        pat("it as y", "as@1(it - .y@3)");
        pat("[ x as y , z ]", "con@1(:: prec@1([.1=@1(as@2(x - .y@4)) .2=@1(con@1(:: prec@1([.1=@1(.z@6) .2=@1(.nil@1)])))]))");
        CHECK.fault("val ( x ) as y = 1", 1, 4);
        CHECK.fault("val x y as z = 1", 1, 3);
        CHECK.fault("val A.b as z = 1", 1, 2);
        CHECK.fault("val _ as z = 1", 1, 2);
        CHECK.fault("val x :: y as z = 1", 1, 4);
        CHECK.fault("val x : t : u as z = 1", 1, 6);
        CHECK.fault("val + as y = 1", 1, 1);
    }

    private static void types() {
        type("'a", "'a@3");
        type("u", "t@3(- u)");
        type("A.b", "t@3(- A.b)");
        type("+", "t@3(- +)");
        type("( u )", "t@4(- u)");
        type("( u ) v", "t@3([t@4(- u)] v)");
        type("u v A.b", "t@3([t@3([t@3(- u)] v)] A.b)");
        type("( 'a , b ) c d", "t@3([t@3(['a@4 t@6(- b)] c)] d)");
        type("{ }", "trec@3(-)");
        type("{ b : x , 1 : y , a : z } u", "t@3([trec@3([1:@8(t@10(- y)) a:@12(t@14(- z)) b:@4(t@6(- x))])] u)");
        type("{ * : x }", "trec@3([*:@4(t@6(- x))])");
        type("a * b * c", "trec@3([1:@3(t@3(- a)) 2:@3(t@5(- b)) 3:@3(t@7(- c))])");
        type("( a ) * ( b * c )", "trec@3([1:@3(t@4(- a)) 2:@3(trec@8([1:@8(t@8(- b)) 2:@8(t@10(- c))]))])");
        type("a -> b -> c", "arrow@3(t@3(- a) arrow@5(t@5(- b) t@7(- c)))");
        type("( a -> b ) -> c", "arrow@3(arrow@4(t@4(- a) t@6(- b)) t@9(- c))");
        type("`* * `*", "trec@3([1:@3(t@3(- *)) 2:@3(t@5(- *))])");
        CHECK.alike("type t = a * b c -> d", "type t = ( { 1 : a , 2 : ( b ) c } ) -> d");
        CHECK.fault("type t = ( a , b )", 1, 8);
        CHECK.fault("type t = ( )", 1, 4);
        CHECK.fault("type t = a *", 1, 5);
        CHECK.fault("type t = * a", 1, 3);
        CHECK.fault("type t = a 'b", 1, 4);
        CHECK.fault("type t = { a = b }", 1, 5);
        CHECK.fault("type t = { 0 : b }", 1, 4);
    }
}
