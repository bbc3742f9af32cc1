/** Promise 4: declarations, function clauses, and where changes of fixity hold. */
public final class DecTest {
    private static final Check CHECK = new Check();

    public static void main(String[] args) {
        values();
        functions();
        heads();
        typesAndDatatypes();
        exceptionsAndOpen();
        scopes();
        fixities();
        CHECK.end("DecTest");
    }

    private static void values() {
        CHECK.placed("val ( x ) = ( y )", "decs@0([val@0(- [bind@1(.x@2 y@6)])])");
        CHECK.placed("val 'a x = 1", "decs@0([val@0(['a@1] [bind@2(.x@2 1@4)])])");
        CHECK.placed("val ( 'a , 'b ) rec rec x = 1 and rec y = 2 and z = 3",
            "decs@0([val@0(['a@2 'b@4] [bindrec@8(.x@8 1@10) bindrec@13(.y@13 2@15) bindrec@17(.z@17 3@19)])])");
        CHECK.placed("val x = 1 and rec y = 2 and z = 3",
            "decs@0([val@0(- [bind@1(.x@1 1@3) bindrec@6(.y@6 2@8) bindrec@10(.z@10 3@12)])])");
        CHECK.tree("val x = a = b", "decs([val(- [bind(.x app(= rec([1=(a) 2=(b)])))])])");
        CHECK.fault("val ( 'a ) = 1", 1, 4);
        CHECK.fault("val x", 1, 2);
        CHECK.fault("val x = 1 and", 1, 5);
    }

    private static void functions() {
        CHECK.placed("fun f 0 = 1 | f x = x", "decs@0([val@0(- [bindrec@1(.f@1 fn@1([rule@1(.v0@1"
            + " app@1(fn@1([rule@1(p0@2 1@4) rule@6(.x@7 x@9)]) v0@1))]))])])");
        CHECK.placed("fun 'a f x y = 1 | op f ( a ) b : t = ( 2 )",
            "decs@0([val@0(['a@1] [bindrec@2(.f@2 fn@2([rule@2(.v0@2 fn@2([rule@2(.v1@2"
                + " app@2(fn@2([rule@2(prec@2([.1=@2(.x@3) .2=@2(.y@4)]) 1@6)"
                + " rule@8(prec@8([.1=@8(.a@11) .2=@8(.b@13)]) typed@18(2@18 t@15(- t)))])"
                + " rec@2([1=@2(v0@2) 2=@2(v1@2)])))]))]))])])");
        CHECK.placed("fun f x = y and g 1 = z", "decs@0([val@0(- [bindrec@1(.f@1 fn@1([rule@1(.v0@1"
            + " app@1(fn@1([rule@1(.x@2 y@4)]) v0@1))])) bindrec@6(.g@6 fn@6([rule@6(.v1@6"
            + " app@6(fn@6([rule@6(p1@7 z@9)]) v1@6))]))])])");
        CHECK.tree("fun f x = # 1 and g y = # 2", "decs([val(- [bindrec(.f fn([rule(.v0 app(fn([rule(.x"
            + " fn([rule(prec...([.1=(.v1)]) v1)]))]) v0))])) bindrec(.g fn([rule(.v2 app(fn([rule(.y"
            + " fn([rule(prec...([.2=(.v3)]) v3)]))]) v2))]))])])");
        CHECK.good("fun ( 'a , 'b ) f x = 1 and g y = 2 | g z = 3 and h 1 2 3 = 4");
        CHECK.good("fun it x = 1");
        CHECK.fault("fun f = 1", 1, 2);
        CHECK.fault("fun f x = case x of 1 => 2 | f y = 3", 1, 13);
        CHECK.good("fun f x = ( case x of 1 => 2 ) | f y = 3");
        CHECK.fault("fun f x = raise y handle 1 => 2 | f y = 3", 1, 13);
        CHECK.good("fun f x = if a then b else c | f y = 3");
    }

    private static void heads() {
        String infix = "decs@0([val@0(- [bindrec@1(.+@1 fn@1([rule@1(.v0@1 app@1(fn@1([rule@1(prec@1([";
        CHECK.placed("fun x + y = z", infix + ".1=@1(.x@1) .2=@1(.y@3)]) z@5)]) v0@1))]))])])");
        CHECK.placed("fun ( x + y ) = z", infix + ".1=@1(.x@2) .2=@1(.y@4)]) z@7)]) v0@1))]))])])");
        CHECK.placed("fun ( x ) + y = z", infix + ".1=@1(.x@2) .2=@1(.y@5)]) z@7)]) v0@1))]))])])");
        CHECK.placed("fun ( x + y ) + z = w", infix
            + ".1=@1(con@2(+ prec@2([.1=@2(.x@2) .2=@2(.y@4)]))) .2=@1(.z@7)]) w@9)]) v0@1))]))])])");
        CHECK.placed("fun ( x + y ) z : t = ( w ) | ( a + b ) c = d",
            "decs@0([val@0(- [bindrec@1(.+@1 fn@1([rule@1(.v0@1 fn@1([rule@1(.v1@1 app@1(fn@1(["
                + "rule@1(prec@1([.1=@1(prec@1([.1=@1(.x@2) .2=@1(.y@4)])) .2=@1(.z@6)]) typed@11(w@11 t@8(- t)))"
                + " rule@14(prec@14([.1=@14(prec@14([.1=@14(.a@15) .2=@14(.b@17)])) .2=@14(.c@19)]) d@21)])"
                + " rec@1([1=@1(v0@1) 2=@1(v1@1)])))]))]))])])");
        CHECK.alike("fun x + y = z | op + ( a , b ) = c | ( d + e ) = f",
            "fun op + ( x , y ) = z | op + ( a , b ) = c | op + ( d , e ) = f");
        CHECK.alike("fun ( x + y ) 1 2 = z", "fun op + ( x , y ) 1 2 = z");
        CHECK.alike("fun A.b + { a , ... } = z", "fun op + ( A.b , { a , ... } ) = z");
        CHECK.alike("fun ( [ a ] + ( b , { c = ( d ) } ) ) e = z", "fun op + ( [ a ] , ( b , { c = d } ) ) e = z");
        CHECK.alike("fun ( op f + op g ) e = z", "fun op + ( f , g ) e = z");
        CHECK.alike("infix f fun a f b = c", "infix f fun op f ( a , b ) = c");
        CHECK.fault("fun ( x y ) z = 1", 1, 5);
        CHECK.fault("fun ( x + y z ) w = 1", 1, 7);
        CHECK.fault("fun ( x + y : t ) w = 1", 1, 8);
        CHECK.fault("fun ( x + y + z ) w = 1", 1, 8);
        CHECK.fault("fun ( x + y ) + z w = 1", 1, 8);
        CHECK.fault("fun + x = y", 1, 1);
        CHECK.fault("fun op x + y = z", 1, 3);
        CHECK.fault("fun f x + y = 1", 1, 3);
        CHECK.fault("fun x + y z = 1", 1, 4);
        CHECK.fault("fun f x y as z = 1", 1, 4);
        CHECK.fault("fun f x : t : u = 1", 1, 5);
        CHECK.fault("fun 1 = 2", 1, 2);
        CHECK.fault("fun x = y = z", 1, 2);
        CHECK.fault("fun f x = 1 |", 1, 6);
    }

    private static void typesAndDatatypes() {
        CHECK.placed("type ( 'a , 'b ) t = 'a and u = v",
            "decs@0([type@0([tb@1(['a@2 'b@4] t 'a@8) tb@10(- u t@12(- v))])])");
        CHECK.placed("datatype 'a t = A of int * 'a | op + and u = B withtype v = w and 'b x = y",
            "decs@0([data@0([db@1(['a@1] t [cb@4(A trec@6([1:@6(t@6(- int)) 2:@6('a@8)])) cb@10(+ -)])"
                + " db@13(- u [cb@15(B -)])] [tb@17(- v t@19(- w)) tb@21(['b@21] x t@24(- y))])])");
        CHECK.placed("datatype t = datatype A.b", "decs@0([repl@0(t A.b)])");
        CHECK.placed("datatype t = datatype u", "decs@0([repl@0(t u)])");
        CHECK.placed("abstype t = A withtype u = v with val x = 1 end",
            "decs@0([abs@0([db@1(- t [cb@3(A -)])] [tb@5(- u t@7(- v))] decs@9([val@9(- [bind@10(.x@10 1@12)])]))])");
        CHECK.placed("abstype t = A with end", "decs@0([abs@0([db@1(- t [cb@3(A -)])] - decs@5(-))])");
        CHECK.tree("datatype t = + | `= of u", "decs([data([db(- t [cb(+ -) cb(= t(- u))])] -)])");
        CHECK.fault("datatype 'a t = datatype u", 1, 4);
        CHECK.fault("datatype A.b = datatype u", 1, 1);
        CHECK.fault("datatype t = A and u = datatype v", 1, 7);
        CHECK.fault("datatype t = datatype u and v = A", 1, 5);
        CHECK.fault("datatype t = datatype u withtype v = w", 1, 5);
        CHECK.fault("datatype t = A.b", 1, 3);
        CHECK.fault("type * = x", 1, 1);
        CHECK.fault("type A.b = x", 1, 1);
        CHECK.fault("abstype t = datatype u with end", 1, 3);
    }

    private static void exceptionsAndOpen() {
        CHECK.placed("exception E and F of t and op G = op = and H = A.h and I = op +",
            "decs@0([exc@0([eb@1(E -) eb@3(F t@5(- t)) ec@7(G =) ec@13(H A.h) ec@17(I +)])])");
        CHECK.placed("open A.b c", "decs@0([open@0([A.b@1 c@2])])");
        CHECK.fault("exception a = +", 1, 3);
        CHECK.fault("exception a = b of t", 1, 4);
        CHECK.fault("exception A.b", 1, 1);
        CHECK.fault("open", 1, 1);
        CHECK.fault("open a +", 1, 2);
    }

    private static void scopes() {
        CHECK.placed("local val x = 1 in val y = 2 end", "decs@0([local@0(decs@1([val@1(- [bind@2(.x@2 1@4)])])"
            + " decs@6([val@6(- [bind@7(.y@7 2@9)])]))])");
        CHECK.placed("local in end", "decs@0([local@0(decs@1(-) decs@2(-))])");
        CHECK.placed("local ; in ; end", "decs@0([local@0(decs@1(-) decs@3(-))])");
        String plain = "app(app(a f) b)";
        String joined = "app(f rec([1=(a) 2=(b)]))";
        CHECK.tree("let infix f in a f b end ; a f b", "decs([val(- [bind(.it let(decs(-) " + joined + "))])"
            + " val(- [bind(.it " + plain + ")])])");
        CHECK.tree("local infix f in val x = a f b end val x = a f b",
            "decs([local(decs(-) decs([val(- [bind(.x " + joined + ")])])) val(- [bind(.x " + plain + ")])])");
        CHECK.tree("local in infix f end val x = a f b",
            "decs([local(decs(-) decs(-)) val(- [bind(.x " + joined + ")])])");
        CHECK.tree("abstype t = A with infix f end val x = a f b",
            "decs([abs([db(- t [cb(A -)])] - decs(-)) val(- [bind(.x " + joined + ")])])");
        CHECK.tree("let local infix g in infix f end in a f b end ; a f b",
            "decs([val(- [bind(.it let(decs([local(decs(-) decs(-))]) " + joined + "))])"
                + " val(- [bind(.it " + plain + ")])])");
        CHECK.tree("local local in infix f end val x = a f b in val x = a f b end val x = a f b",
            "decs([local(decs([local(decs(-) decs(-)) val(- [bind(.x " + joined + ")])])"
                + " decs([val(- [bind(.x " + joined + ")])])) val(- [bind(.x " + plain + ")])])");
    }

    private static void fixity(String text, int... want) {
        CoreSyntax x = new CoreSyntax();
        Text names = new Text();
        names.give(x, text);
        CHECK.due("a fault in " + text, x.parse() == -1, false);
        for (int k = 0; k < want.length; k++) {
            char name = (char) ('a' + k);
            CHECK.due(text + ", fixity of " + name, x.fixity(names.name(String.valueOf(name))), want[k]);
        }
    }

    private static void fixities() {
        fixity("infix a infixr b infix 3 c infixr 9 d", 0, 1, 6, 19);
        fixity("infix 3 a b c nonfix b", 6, -1, 6);
        fixity("infix 3 a infix 4 a infixr 4 a", 9);
        fixity("let infix 3 a in 1 end", -1);
        fixity("infix 2 a ; let infix 3 a nonfix a infix 5 b in 1 end", 4, -1);
        fixity("local infix 3 a in infix 4 b end", -1, 8);
        fixity("infix 1 a local infix 3 a in infix 4 b end", 2, 8);
        fixity("local infix 3 a in infix 4 a end", 8);
        fixity("infix 1 a local infix 3 a in nonfix a end", -1);
        fixity("local local infix 1 a in infix 2 b end infix 3 c in infix 4 d end", -1, -1, -1, 8);
        fixity("local in local infix 1 a in infix 2 b end infix 3 c end", -1, 4, 6);
        fixity("local in val x = let infix 3 a in 1 end infix 2 b end", -1, 4);
        fixity("val x = let local in infix 3 a end infix 4 b in 1 end infix 5 c", -1, -1, 10);
        fixity("abstype t = A with infix 3 a local infix 4 b in end end", 6, -1);
        fixity("local abstype t = A with infix 3 a end in abstype t = A with infix 4 b end end", -1, 8);
        fixity("local infix 3 a in infix 4 b val x = 1 a 2 b 3 infix 5 a end", 10, 8);
        CHECK.fault("infix 10 a", 1, 1);
        CHECK.fault("infix $3 a", 1, 1);
        CHECK.fault("infix 3 4 a", 1, 2);
        CHECK.fault("infix =", 1, 1);
        CHECK.fault("infix op a", 1, 1);
        CHECK.fault("nonfix 3 a", 1, 1);
        CHECK.fault("infix A.b", 1, 1);
    }
}
