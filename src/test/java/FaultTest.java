/** Promises 4 and 5: the kinds of faults from 2 on, and which of several is told. */
public final class FaultTest {
    private static final Check CHECK = new Check();

    public static void main(String[] args) {
        labels();
        clauses();
        operators();
        depth();
        mixedDepth();
        names();
        order();
        CHECK.end("FaultTest");
    }

    private static void labels() {
        CHECK.fault("{ a = 1 , a = 2 }", 2, 5);
        CHECK.fault("{ 2 = 1 , 1 = 2 , 2 = 3 }", 2, 9);
        CHECK.fault("{ a = 1 , a", 2, 5);
        CHECK.fault("{ a = ) , a = 2 }", 1, 3);
        CHECK.fault("fn { a , b , a } => 1", 2, 6);
        CHECK.fault("fn { a = x , a as y } => 1", 2, 6);
        CHECK.fault("fn { + , 1 = x , 1 = y } => 1", 2, 8);
        CHECK.fault("fn { a , ... , a } => 1", 1, 5);
        CHECK.fault("x : { a : t , a : u }", 2, 7);
        CHECK.good("{ a = { a = 1 } , b = { a = 2 } }");
        CHECK.good("{ 1 = a , 11 = b }");
        CHECK.good("fn { true , false , it } => 1");
    }

    private static void clauses() {
        CHECK.fault("fun f x y = 1 | f z = 2", 3, 9);
        CHECK.fault("fun f x = 1 | f y z = 2", 3, 9);
        CHECK.fault("fun f x = 1 | g x = 2", 3, 8);
        CHECK.fault("fun f x = 1 | f x = 2 | g x = 3", 3, 13);
        CHECK.fault("fun f x = 1 | g x : t = 2", 3, 10);
        CHECK.fault("fun f x = 1 | g x : ( = 2", 1, 10);
        CHECK.fault("fun f x = 1 | g x , 2", 1, 8);
        CHECK.fault("fun x + y = 1 | x - y = 2", 3, 10);
        CHECK.fault("fun x + y = 1 | ( x + y ) z = 2", 3, 13);
        CHECK.good("fun f x = 1 and g x y = 2");
        CHECK.fault("fun f x = 1 and g x y = 2 | f x = 3", 3, 14);
        CHECK.fault("fun true x = 1", 6, 3);
        CHECK.fault("fun false x = 1", 6, 3);
        CHECK.fault("fun nil x = 1", 6, 3);
        CHECK.fault("fun ref x = 1", 6, 3);
        CHECK.fault("fun op :: x = 1", 6, 4);
        CHECK.fault("fun x :: y = 1", 6, 4);
        CHECK.fault("fun ( x :: y ) z = 1", 6, 7);
        CHECK.fault("fun x `= y = 1", 6, 4);
        CHECK.fault("fun op `= x = 1", 6, 4);
        CHECK.fault("fun f x = 1 | true y z = 2", 6, 9);
        CHECK.fault("fun true x : t = 1", 6, 5);
        CHECK.fault("fun true", 1, 2);
        CHECK.good("fun it x = 1");
    }

    private static void operators() {
        CHECK.fault("infix 5 a ; x a y :: z", 4, 7);
        CHECK.fault("infix 5 a ; x :: y a z", 4, 7);
        CHECK.fault("infix 5 a ; x a y + z :: w", 4, 9);
        CHECK.fault("infix 5 a ; x a y + z * v :: w", 4, 11);
        CHECK.good("infix 5 a ; x a y = z :: w");
        CHECK.good("infix 5 a ; x a ( y :: w )");
        CHECK.fault("infix 5 a ; x = y a z + u :: w", 4, 11);
        CHECK.fault("infix 5 a ; fn x a y :: z => 1", 4, 8);
        CHECK.fault("infixr 4 a ; x a y = z", 4, 7);
        CHECK.fault("infixr 4 a ; x = y a z", 4, 7);
        CHECK.fault("infix 5 a ; x a y ::", 4, 7);
        CHECK.fault("infix 5 a ; x a :: y", 1, 6);
        CHECK.fault("infix 5 a fun x a y :: z = 1", 1, 7);
        CHECK.good("infix 5 a ; [ x a y , x :: y ]");
    }

    private static String times(String text, int n) {
        StringBuilder all = new StringBuilder();
        for (int k = 0; k < n; k++) {
            all.append(text).append(' ');
        }
        return all.toString();
    }

    /** That 32 of an opening may be open and 33 may not; the opening token is one of those repeated. */
    private static void deep(String before, String open, int opening, String inner, String close, String behind) {
        CHECK.good(before + " " + times(open, 32) + inner + " " + times(close, 32) + behind);
        int place = new Text().tokens(before + " .").length - 1 + 32 * new Text().tokens(open).length + opening;
        CHECK.fault(before + " " + times(open, 33) + inner + " " + times(close, 33) + behind, 5, place);
        CHECK.fault(before + " " + times(open, 33), 5, place);
    }

    private static void depth() {
        deep("1 ;", "(", 0, "x", ")", "");
        deep("1 ;", "( x ,", 0, "x", ")", "");
        deep("1 ;", "( x ;", 0, "x", ")", "");
        deep("1 ;", "[", 0, "x", "]", "");
        deep("1 ;", "{ a =", 0, "x", "}", "");
        deep("1 ;", "let in", 0, "x", "end", "");
        deep("1 ;", "let val x =", 0, "x", "in y end", "");
        deep("1 ;", "let fun f x =", 0, "x", "in y end", "");
        deep("val x = 1", "local", 0, "", "in end", "");
        deep("val x = 1", "local in", 0, "", "end", "");
        deep("val x = 1", "abstype t = A with", 0, "", "end", "");
        deep("1 ;", "raise", 0, "x", "", "");
        deep("1 ;", "if", 0, "x", "then y else z", "");
        deep("1 ;", "if x then", 0, "x", "else z", "");
        deep("1 ;", "if x then y else", 0, "x", "", "");
        deep("1 ;", "while", 0, "x", "do y", "");
        deep("1 ;", "while x do", 0, "x", "", "");
        deep("1 ;", "case", 0, "x", "of y => z", "");
        deep("1 ;", "case x of y =>", 0, "x", "", "");
        deep("1 ;", "fn x =>", 0, "x", "", "");
        deep("1 ;", "x handle y =>", 1, "x", "", "");
        deep("val", "x as", 1, "x", "", "= 1");
        deep("val", "(", 0, "x", ")", "= 1");
        deep("val", "[", 0, "x", "]", "= 1");
        deep("val", "{ a =", 0, "x", "}", "= 1");
        deep("x :", "(", 0, "t", ")", "");
        deep("x :", "( t ,", 0, "t", ") u", "");
        deep("x :", "{ a :", 0, "t", "}", "");
        deep("fun f", "(", 0, "x", ")", "= 1");
    }

    private static void mixedDepth() {
        String thirty = times("(", 30);
        CHECK.good(thirty + "let val { a } = 1 in 2 end " + times(")", 30));
        CHECK.fault(thirty + "let val { a as", 5, 34);
        CHECK.fault(thirty + "( ( (", 5, 32);
        CHECK.good(thirty + "( ( x ) ) ( ( y ) ) " + times(")", 30));
        CHECK.good(thirty + "fn x => ( y ) " + times(")", 30));
        CHECK.fault(thirty + "fn x => ( ( y", 5, 34);
        CHECK.good(thirty + "( fn x => y ) ( fn z => w ) " + times(")", 30));
        CHECK.fault(times("local", 32) + "fun ( x + y ) z = 1", 5, 33);
        CHECK.good(times("local", 32) + "fun x + y = 1 val 'a x = 1 val ( 'a ) y = 1 " + times("in end", 32));
        CHECK.good(times("local", 32) + "type ( 'a , 'b ) t = u " + times("in end", 32));
        CHECK.fault(times("local", 32) + "type ( 'a , 'b ) t = ( u )", 5, 40);
        CHECK.good(times("local", 32) + "val x = # 1 val y = 1 andalso 2 orelse 3 " + times("in end", 32));
        CHECK.fault(times("local", 32) + "val x = 1 handle", 5, 36);
        CHECK.good(times("local", 31) + "val x = raise 1 val y = fn 1 => 2 val z = 1 handle 2 => 3 " + times("in end", 31));
    }

    private static void names() {
        String[] constructors = {"true", "false", "nil", "::", "ref", "it"};
        for (String name : constructors) {
            CHECK.fault("datatype t = " + name, 6, 3);
            CHECK.fault("datatype t = op " + name, 6, 4);
            CHECK.fault("datatype t = A of u | " + name + " of v", 6, 7);
            CHECK.fault("abstype t = " + name, 6, 3);
            CHECK.fault("exception " + name, 6, 1);
            CHECK.fault("exception op " + name + " of t", 6, 2);
            CHECK.fault("exception E and " + name + " = F", 6, 3);
            CHECK.good("exception E = op " + name);
            CHECK.good("type " + name + " = t");
            CHECK.good("val op " + name + " = 1");
            if (!name.equals("it")) {
                CHECK.fault("val op " + name + " as x = 1", 6, 3);
                CHECK.fault("val op " + name + " : t as x = 1", 6, 5);
                CHECK.fault("val { " + name + " as x } = 1", 6, 3);
                CHECK.fault("val { a = op " + name + " as x } = 1", 6, 6);
            }
        }
        CHECK.good("val it as x = 1");
        CHECK.good("val { it as x } = 1");
        CHECK.fault("datatype t = op =", 6, 4);
        CHECK.fault("exception op =", 6, 2);
        CHECK.fault("exception op = = F", 6, 2);
        CHECK.fault("val op = = 1", 6, 2);
        CHECK.fault("val x op = = 1", 6, 3);
        CHECK.fault("fn ( op = ) => 1", 6, 3);
        CHECK.fault("val { a = op = } = 1", 6, 5);
        CHECK.fault("fun f op = = 1", 6, 3);
        CHECK.fault("fun op `= x = 1", 6, 4);
        headSign();
        CHECK.good("val x = op =");
    }

    /** As a function's name the sign = can stand behind op: then its patterns come, and the clause's = tells 6. */
    private static void headSign() {
        CHECK.fault("fun op = x =", 6, 4);
        CHECK.fault("fun op = x = 1", 6, 4);
        CHECK.fault("fun op = x y ( z , 1 ) = 1", 6, 10);
        CHECK.fault("fun op = x : t = 1", 6, 6);
        CHECK.fault("fun 'a op = x = 1", 6, 5);
        CHECK.fault("fun ( 'a , 'b ) op = x = 1", 6, 9);
        CHECK.fault("fun f x = 1 | op = x = 1", 6, 9);
        CHECK.fault("fun f x = 1 | op = x y = 1", 6, 10);
        CHECK.fault("fun f x = 1 and op = x = 1", 6, 9);
        CHECK.fault("let fun op = x = 1 in 1 end", 6, 5);
        CHECK.fault("nonfix `= fun op = x = 1", 6, 6);
        headSignAlone();
        CHECK.fault("fun = x = 1", 1, 1);
        CHECK.fault("fun op op = x = 1", 1, 2);
        CHECK.fault("fun op = op = = 1", 6, 4);
        CHECK.fault("fun op f op = x = 1", 6, 4);
        CHECK.fault("fun ( op = + x ) = 1", 6, 3);
        CHECK.fault("fun ( op = ) + x = 1", 6, 3);
        CHECK.fault("fun ( op = x ) = 1", 6, 3);
        CHECK.fault("fun x + op = = 1", 6, 4);
        CHECK.fault("fun ( x + y ) op = = 1", 6, 7);
    }

    /** Behind fun op = the token that begins no atomic pattern is the place, not the sign. */
    private static void headSignAlone() {
        CHECK.fault("fun op =", 1, 3);
        CHECK.fault("fun op = = 1", 1, 3);
        CHECK.fault("fun op = : t = 1", 1, 3);
        CHECK.fault("fun op = + x = 1", 1, 3);
        CHECK.fault("fun op = x + y = 1", 1, 4);
        CHECK.fault("fun op = ; x = 1", 1, 3);
        CHECK.fault("fun f x = 1 | op = = 1", 1, 8);
        CHECK.fault("let fun op = in 1 end", 1, 4);
    }

    private static void order() {
        CHECK.fault("{ a = 1 , a : ) }", 2, 5);
        CHECK.fault("datatype t = it of )", 6, 3);
        CHECK.fault(times("(", 32) + "fn ( op =", 5, 32);
        CHECK.fault("val " + times("(", 32) + "true as x", 5, 34);
        CHECK.fault("val " + times("(", 32) + "true x as y", 1, 35);
        CHECK.fault("val " + times("(", 31) + "true as x", 6, 33);
        CHECK.fault("infix 5 a ; x a y :: )", 4, 7);
    }
}
