/** Edges of fault 5, too deep: 31 and 32 of the openings may be open, 33 may not; where each one ends. */
public final class DepthEdgeTest {
    private static final Check CHECK = new Check();

    public static void main(String[] args) {
        brackets();
        bracketsOfPatterns();
        bracketsOfTypes();
        scopes();
        forms();
        layers();
        allKindsTogether();
        bracketsUpToTheClosingOne();
        scopesUpToEnd();
        formsUpToTheEndOfTheirPhrases();
        layersUpToTheEndOfTheirPhrases();
        typeVariablesDoNotCount();
        othersDoNotCount();
        countedAnewInEachParse();
        CHECK.end("DepthEdgeTest");
    }

    private static String times(String text, int n) {
        return (text + " ").repeat(n);
    }

    /** An opening's token is marked by ~>; it stands n times, and what closes it too. */
    private static void deep(String before, String open, String inner, String close, String behind) {
        String plain = open.replace("~> ", "");
        for (int n : new int[] {1, 31, 32}) {
            CHECK.good(before + " " + times(plain, n) + inner + " " + times(close, n) + behind);
        }
        for (int n : new int[] {33, 34}) {
            String rest = times(plain, n - 33) + inner + " " + times(close, n) + behind;
            CHECK.faultAt(5, before + " " + times(plain, 32) + open + " " + rest);
        }
        CHECK.faultAt(5, before + " " + times(plain, 32) + open);
    }

    private static void brackets() {
        CHECK.sentence("Faults: 5 with it more than 32 of ( [ { are open, in expressions");
        deep("", "~> (", "x", ")", "");
        deep("", "~> (", "", ")", "");
        deep("", "~> ( x ,", "x", ")", "");
        deep("", "~> (", "x", ", x )", "");
        deep("", "~> ( x ;", "x", ")", "");
        deep("", "~> (", "x", "; x )", "");
        deep("", "f ~> (", "x", ")", "");
        deep("", "~> [", "x", "]", "");
        deep("", "~> [", "", "]", "");
        deep("", "~> [ x ,", "x", ", x ]", "");
        deep("", "~> { a =", "x", "}", "");
        deep("", "~> { 1 = x , a =", "x", ", b = x }", "");
        deep("", "x + ~> (", "x", ") * y", "");
    }

    private static void bracketsOfPatterns() {
        CHECK.sentence("Faults: 5 with it more than 32 of ( [ { are open, in patterns");
        deep("val", "~> (", "x", ")", "= 1");
        deep("val", "~> (", "", ")", "= 1");
        deep("val", "~> ( x ,", "x", ", y )", "= 1");
        deep("val", "~> [", "x", "]", "= 1");
        deep("val", "~> [", "", "]", "= 1");
        deep("val", "~> { a =", "x", "}", "= 1");
        deep("val", "C ~> (", "x", ")", "= 1");
        deep("val", "x :: ~> (", "x", ")", "= 1");
        CHECK.good("fn " + times("(", 31) + "x " + times(")", 31) + "=> 1");
        CHECK.faultAt(5, "fn " + times("(", 31) + "~> ( x");
        deep("fun f", "~> (", "x", ")", "= 1");
        deep("fun f x", "~> [", "x", "]", "= 1");
        deep("fun", "~> (", "x", ")", "+ y = 1");
        deep("fun x +", "~> (", "y", ")", "= 1");
        CHECK.good("fun ( " + times("(", 31) + "x " + times(")", 31) + "+ y ) z = 1");
        CHECK.faultAt(5, "fun ( " + times("(", 31) + "~> ( x " + times(")", 32) + "+ y ) z = 1");
        CHECK.good(times("local", 31) + "fun ( x + y ) z = 1 " + times("in end", 31));
        CHECK.faultAt(5, times("local", 32) + "fun ~> ( x + y ) z = 1 " + times("in end", 32));
    }

    private static void bracketsOfTypes() {
        CHECK.sentence("Faults: 5 with it more than 32 of ( { are open, in types");
        deep("x :", "~> (", "t", ")", "");
        deep("x :", "~> ( u ,", "t", ") v", "");
        deep("x :", "~> (", "t", ", u ) v", "");
        deep("x :", "~> { a :", "t", "}", "");
        deep("x :", "~> (", "t", ") -> u", "");
        deep("x :", "u -> ~> (", "t", ")", "");
        deep("x :", "u * ~> (", "t", ")", "");
        deep("type t =", "~> (", "u", ")", "");
        deep("datatype t = A of", "~> (", "u", ")", "");
        deep("exception E of", "~> (", "u", ")", "");
        deep("val x :", "~> (", "u", ")", "= 1");
        deep("fun f x :", "~> (", "u", ")", "= 1");
    }

    private static void scopes() {
        CHECK.sentence("Faults: 5 with it more than 32 of let local abstype are open");
        deep("", "~> let in", "x", "end", "");
        deep("", "~> let in y ;", "x", "end", "");
        deep("", "~> let val x =", "x", "in y end", "");
        deep("", "f ~> let in", "x", "end", "");
        deep("", "~> local", "", "in end", "");
        deep("", "~> local in", "", "end", "");
        deep("", "~> local val x = 1 ; in ;", "", "; val y = 2 end", "");
        deep("", "~> abstype t = A with", "", "end", "");
        deep("", "~> abstype t = A withtype u = v with val x = 1", "", "end", "");
    }

    private static void forms() {
        CHECK.sentence("Faults: 5 with it more than 32 of raise if while case fn handle are open");
        deep("", "~> raise", "x", "", "");
        deep("", "~> if", "x", "then y else z", "");
        deep("", "~> if x then", "x", "else z", "");
        deep("", "~> if x then y else", "x", "", "");
        deep("", "~> while", "x", "do y", "");
        deep("", "~> while x do", "x", "", "");
        deep("", "~> case", "x", "of y => z", "");
        deep("", "~> case x of y =>", "x", "", "");
        deep("", "~> case x of 1 => 2 | y =>", "x", "| z => 3", "");
        deep("", "~> fn x =>", "x", "", "");
        deep("", "~> fn 1 => 2 | x =>", "x", "| y => 3", "");
        deep("", "x ~> handle y =>", "x", "", "");
        deep("", "x ~> handle 1 => 2 | y =>", "x", "", "");
        deep("", "x andalso ~> raise", "x", "", "");
        deep("", "x orelse ~> fn y =>", "x", "", "");
    }

    private static void layers() {
        CHECK.sentence("Faults: 5 with it more than 32 of as are open");
        deep("val", "x ~> as", "x", "", "= 1");
        deep("val", "op + ~> as", "x", "", "= 1");
        deep("val", "x : t ~> as", "x", "", "= 1");
        CHECK.good("fn " + times("x as", 31) + "_ => 1");
        CHECK.faultAt(5, "fn " + times("x as", 31) + "x ~> as _ => 1");
        CHECK.good("val { a " + times("as x", 31) + "} = 1");
        CHECK.faultAt(5, "val { a " + times("as x", 31) + "~> as x } = 1");
        CHECK.good("val { a : t " + times("as x", 31) + "} = 1");
        CHECK.faultAt(5, "val { a : t " + times("as x", 31) + "~> as x } = 1");
    }

    private static void allKindsTogether() {
        CHECK.sentence("Faults: 5 counts all thirteen together");
        String decs = "local abstype t = A with val x = ";
        String exps = "let in ( [ { a = raise if while case fn y as ";
        String pats = "( [ { b = ";
        String inner = "z } ] ) => 1 of _ => 2 do 3 then 4 else 5 handle 6 => 7 } ] ) end ";
        String ends = "end in end";
        CHECK.good(decs + exps + pats + inner + ends);
        for (int n : new int[] {16, 17}) {
            String more = times("(", n);
            CHECK.good(decs + more + exps + pats + inner + times(")", n) + ends);
        }
        CHECK.faultAt(5, decs + times("(", 18) + exps + pats.replace("{ b", "~> { b") + inner);
        CHECK.faultAt(5, decs + times("(", 19) + exps + pats.replace("[", "~> ["));
        CHECK.faultAt(5, decs + times("(", 20) + exps + "~> " + pats);
        CHECK.faultAt(5, decs + times("(", 21) + exps.replace("as ", "~> as "));
        CHECK.faultAt(5, decs + times("(", 22) + exps.replace("fn", "~> fn"));
        CHECK.faultAt(5, decs + times("(", 23) + exps.replace("case", "~> case"));
        CHECK.faultAt(5, decs + times("(", 24) + exps.replace("while", "~> while"));
        CHECK.faultAt(5, decs + times("(", 25) + exps.replace("if", "~> if"));
        CHECK.faultAt(5, decs + times("(", 26) + exps.replace("raise", "~> raise"));
        CHECK.faultAt(5, decs + times("(", 27) + exps.replace("{", "~> {"));
        CHECK.faultAt(5, decs + times("(", 28) + exps.replace("[", "~> ["));
        CHECK.faultAt(5, decs + times("(", 30) + "~> " + exps);
        CHECK.faultAt(5, decs + times("(", 30) + "x ~> handle");
        CHECK.good(decs + times("(", 29) + "x handle y => z " + times(")", 29) + ends);
    }

    /** With 31 open: what is given may open one more, and ( may behind it. */
    private static void closed(String text) {
        CHECK.good(times("(", 30) + "[ " + text + " ] " + times(")", 30));
    }

    /** With 31 open: what is given opens one, and at the mark one too many. */
    private static void open(String text) {
        CHECK.faultAt(5, times("(", 30) + "[ " + text);
    }

    private static void bracketsUpToTheClosingOne() {
        CHECK.sentence("Faults: 5, ( [ { up to the closing one");
        closed("( ) ( x )");
        closed("( x ) ( x )");
        closed("( x , y ) ( x )");
        closed("( x ; y ) ( x )");
        closed("[ ] [ x ]");
        closed("[ x ] ( x ) , { a = x } ( x )");
        closed("{ } ( x )");
        closed("x : ( t ) -> ( u ) * { a : t } * ( u , u ) t");
        open("( ~> (");
        open("( x ~> (");
        open("( x , ~> (");
        open("( x ; ~> (");
        open("[ x , ~> (");
        open("{ a = x , b = ~> (");
        open("x : ( ~> (");
        open("x : ( t , ~> (");
        open("x : { a : t , b : ~> (");
        open("x : ( ~> { a");
    }

    private static void scopesUpToEnd() {
        CHECK.sentence("Faults: 5, let, local, abstype up to end");
        closed("let in x end ( x )");
        open("let in ~> (");
        open("let in x ; ~> (");
        open("let val x = ~> (");
        open("let type t = ~> (");
        open("let ~> local");
        String thirtyOne = times("local", 31);
        String ends = times("in end", 31);
        CHECK.good(thirtyOne + "local in end val x = ( y ) " + ends);
        CHECK.faultAt(5, thirtyOne + "local val x = ~> (");
        CHECK.faultAt(5, thirtyOne + "local in val x = ~> (");
        CHECK.faultAt(5, thirtyOne + "local in end local ~> local");
        CHECK.good(thirtyOne + "abstype t = A with end type t = ( u ) " + ends);
        CHECK.faultAt(5, thirtyOne + "abstype t = A of ~> (");
        CHECK.faultAt(5, thirtyOne + "abstype t = A withtype u = ~> (");
        CHECK.faultAt(5, thirtyOne + "abstype t = A with val x = ~> (");
        CHECK.good(thirtyOne + "datatype t = A of ( u ) withtype u = ( v ) " + ends);
    }

    private static void formsUpToTheEndOfTheirPhrases() {
        CHECK.sentence("Faults: 5, the others (raise if while case fn handle) up to the end of their phrases");
        String[] forms = {
            "raise x", "if a then b else x", "while a do x", "case a of b => x", "fn b => x", "a handle b => x",
            "a andalso raise x", "a orelse fn b => x"
        };
        for (String form : forms) {
            closed(form + " , ( y )");
            closed(form + " , " + form + " , ( y )");
            open(form.substring(0, form.length() - 1) + "~> (");
            open(form + " ~> (");
            open(form + " : ~> (");
            open(form + " + ~> (");
        }
        open("if ~> ( a");
        open("if a then ~> ( b");
        open("while ~> ( a");
        open("case ~> ( a");
        open("case a of ~> ( b");
        open("case a of b => c | ~> ( d");
        open("fn ~> ( b");
        open("fn b => c | ~> ( d");
        open("a handle ~> ( b");
        open("a handle b => c | ~> ( d");
        open("a handle b => c ~> handle");
        closed("( a ) handle b => c");
        CHECK.good(times("local", 31) + "val x = fn a => b val y = ( c ) val z = a handle b => c and w = ( d ) "
            + times("in end", 31));
        CHECK.good(times("local", 31) + "val x = raise a ; val y = raise b " + times("in end", 31));
        CHECK.good(times("(", 31) + "raise a ; raise b ; ( c ) " + times(")", 31));
    }

    private static void layersUpToTheEndOfTheirPhrases() {
        CHECK.sentence("Faults: 5, as up to the end of its phrase");
        String before = times("(", 29) + "fn [ ";
        String behind = " ] => 1 " + times(")", 29);
        CHECK.good(before + "x as y , ( z ) , w as v , { a }" + behind);
        CHECK.faultAt(5, before + "x as ~> (");
        CHECK.faultAt(5, before + "x as y : ~> (");
        CHECK.faultAt(5, before + "x as C ~> (");
        CHECK.faultAt(5, before + "x as y :: ~> (");
        CHECK.faultAt(5, before + "x as y ~> as");
        CHECK.good(times("(", 29) + "fn { a as b , c = ( d ) , e as f } => ( 1 ) " + times(")", 29));
        CHECK.faultAt(5, times("(", 29) + "fn { a as ~> (");
        CHECK.good(times("(", 30) + "fn x as y => ( 1 ) " + times(")", 30));
        CHECK.faultAt(5, times("(", 30) + "fn x as ~> ( y )");
        CHECK.good(times("local", 31) + "val x as y = ( 1 ) " + times("in end", 31));
    }

    private static void typeVariablesDoNotCount() {
        CHECK.sentence("Faults: 5, ( for tyvars does not count");
        String open = times("local", 32);
        String ends = times("in end", 32);
        CHECK.good(open + "val ( 'a ) x = 1 " + ends);
        CHECK.good(open + "val ( 'a , 'b ) rec x = 1 " + ends);
        CHECK.good(open + "fun ( 'a ) f x = 1 " + ends);
        CHECK.good(open + "type ( 'a ) t = u and ( 'a , 'b ) v = w " + ends);
        CHECK.good(open + "datatype ( 'a ) t = A and ( 'b ) u = B withtype ( 'c ) v = w " + ends);
        CHECK.good(times("local", 31) + "abstype ( 'a ) t = A withtype ( 'c ) v = w with end " + times("in end", 31));
        CHECK.faultAt(5, open + "val ~> ( x ) = 1");
        CHECK.faultAt(5, open + "fun ~> ( x ) + y = 1");
        CHECK.faultAt(5, open + "type t = ~> ( 'a )");
        CHECK.faultAt(5, open + "val ( 'a ) ~> ( x ) = 1");
        CHECK.faultAt(1, open + "type ( ~> ( 'a ) t = u");
    }

    private static void othersDoNotCount() {
        CHECK.sentence("Faults: 5 counts no other word or sign");
        String open = times("local", 32);
        String ends = times("in end", 32);
        CHECK.good(open + "val rec x = # 1 op + y andalso z orelse a : t -> u * v and b = 1 ; " + ends);
        CHECK.good(open + "exception E of t and F = G open A B infix 3 f nonfix f " + ends);
        CHECK.good(open + "fun op f _ 1 = 2 | f x y : t = 3 and x + y = 4 datatype t = datatype u " + ends);
        CHECK.faultAt(5, open + "datatype t = A of u val x = ~> fn");
    }

    private static void countedAnewInEachParse() {
        CHECK.sentence("Faults: 5 counts what is open in this text");
        CoreSyntax x = new CoreSyntax();
        Text text = new Text();
        String[] unfinished = {times("(", 33), times("(", 20), "val " + times("x as", 30), times("fn x =>", 32)};
        for (String one : unfinished) {
            CHECK.due(one, text.read(x, one, false).startsWith("fault"), true);
            String good = times("(", 32) + "x" + times(" )", 32);
            CHECK.due("32 behind it", text.read(x, good, false), "decs([val(- [bind(.it x)])])");
            CHECK.due("33 behind it", text.read(x, times("[", 33), false), "fault 5 at 32");
        }
    }
}
