import java.util.Arrays;
import java.util.LinkedHashSet;
import java.util.Set;
import java.util.TreeSet;

/** Promise 4, fault 1: behind the beginning of a text, every kind of token that may stand there. */
public final class NextTokenTest {
    private static final Check CHECK = new Check();
    private static final String DECS =
        " val fun type datatype abstype exception local open infix infixr nonfix ;";
    private static final String CONSTANTS = " 3 0 $3 'w1 'c1 's1";
    private static final String PLAIN = " x !";
    private static final String OPERATORS = " mod + * `*";
    private static final String NAMES = PLAIN + OPERATORS;
    private static final String IDS = PLAIN + " A.b op";
    private static final String ATOMIC = CONSTANTS + IDS + " { # ( [ let";
    private static final String EXP = ATOMIC + " raise if while case fn";
    private static final String BEHIND_TYPED = " : andalso orelse handle";
    private static final String BEHIND_EXP = ATOMIC + OPERATORS + " =" + BEHIND_TYPED;
    private static final String PAT = CONSTANTS + IDS + " _ { ( [";
    private static final String LABELS = NAMES + " 3";
    private static final String SHORT_TYCONS = PLAIN + " mod + `*";
    private static final String TYCONS = SHORT_TYCONS + " A.b";
    private static final String TYPE = TYCONS + " 'a { (";
    private static final String BEHIND_TYPE = TYCONS + " * ->";
    private static final Set<String> ALL = all();

    public static void main(String[] args) {
        programs();
        expressions();
        bracketed();
        patterns();
        types();
        functions();
        bindings();
        scopes();
        CHECK.end("NextTokenTest");
    }

    private static Set<String> all() {
        Set<String> all = new LinkedHashSet<>();
        for (int word = 1; word < Text.WORDS.length; word++) {
            all.add(Text.WORDS[word]);
        }
        for (int word = 49; word <= 58; word++) {
            all.add("%" + word);
        }
        all.addAll(Arrays.asList((NAMES + CONSTANTS + " 'a A.b").trim().split(" ")));
        return all;
    }

    /** What may stand behind a beginning, and whether the text may end there. */
    private static void next(String beginning, String may, boolean mayEnd) {
        Set<String> got = new TreeSet<>();
        int place = new Text().tokens(beginning).length;
        for (String token : ALL) {
            CoreSyntax x = new CoreSyntax();
            new Text().give(x, beginning + " " + token);
            x.parse();
            if (x.fault(0) == 0 || x.fault(1) > place) {
                got.add(token);
            } else {
                boolean unbindable = beginning.endsWith("op") || beginning.startsWith("fun op = ");
                String want = (unbindable && token.equals("=") ? 6 : 1) + " at " + place;
                CHECK.due(beginning + " " + token, x.fault(0) + " at " + x.fault(1), want);
            }
        }
        Set<String> want = new TreeSet<>(Arrays.asList(may.trim().split(" +")));
        CHECK.due("behind: " + beginning, got, want);
        CoreSyntax x = new CoreSyntax();
        new Text().give(x, beginning);
        x.parse();
        CHECK.due("end behind: " + beginning, x.fault(0) + " at " + x.fault(1), mayEnd ? "0 at -1" : "1 at " + place);
    }

    private static void programs() {
        next("", DECS + EXP, true);
        next(";", DECS + EXP, true);
        next("val x = 1 ;", DECS + EXP, true);
        next("x", BEHIND_EXP + " ;", true);
        next("x ;", DECS + EXP, true);
        next("infix a ;", DECS + EXP, true);
        next("local in end", DECS, true);
        next("open a A.b", " x mod `* A.b" + DECS, true);
        next("val x = y", BEHIND_EXP + " and" + DECS, true);
    }

    private static void expressions() {
        next("x +", ATOMIC, false);
        next("x =", ATOMIC, false);
        next("x + y", BEHIND_EXP + " ;", true);
        next("x y", BEHIND_EXP + " ;", true);
        next("x andalso", EXP, false);
        next("x orelse", EXP, false);
        next("x andalso y", BEHIND_EXP + " ;", true);
        next("x andalso y orelse z", BEHIND_EXP + " ;", true);
        next("x : t", BEHIND_TYPE + BEHIND_TYPED + " ;", true);
        next("x :", TYPE, false);
        next("x : t : u", BEHIND_TYPE + BEHIND_TYPED + " ;", true);
        next("x handle", PAT, false);
        next("x handle y", PAT + OPERATORS + " : as =>", false);
        next("x handle y => z", BEHIND_EXP + " | ;", true);
        next("raise", EXP, false);
        next("raise x", BEHIND_EXP + " ;", true);
        next("if", EXP, false);
        next("if x", BEHIND_EXP + " then", false);
        next("if x then", EXP, false);
        next("if x then y", BEHIND_EXP + " else", false);
        next("if x then y else", EXP, false);
        next("if x then y else z", BEHIND_EXP + " ;", true);
        next("while x", BEHIND_EXP + " do", false);
        next("while x do", EXP, false);
        next("while x do y", BEHIND_EXP + " ;", true);
        next("case x", BEHIND_EXP + " of", false);
        next("case x of", PAT, false);
        next("case x of y", PAT + OPERATORS + " : as =>", false);
        next("case x of 1 =>", EXP, false);
        next("case x of 1 => y", BEHIND_EXP + " | ;", true);
        next("case x of 1 => y |", PAT, false);
        next("fn", PAT, false);
        next("fn _", OPERATORS + " : =>", false);
        next("op", NAMES + " =", false);
        next("#", LABELS, false);
        next("# 1", BEHIND_EXP + " ;", true);
        next("nonfix `= ; x", ATOMIC + OPERATORS + BEHIND_TYPED + " ;", true);
        next("nonfix mod ; x", ATOMIC + OPERATORS + " =" + BEHIND_TYPED + " ;", true);
        next("nonfix mod ;", EXP + DECS + " mod", true);
        next("infix x ; !", ATOMIC + OPERATORS + " =" + BEHIND_TYPED + " ;", true);
        next("infix x ;", EXP.replace(" x ", " ") + DECS, true);
    }

    private static void bracketed() {
        next("(", EXP + " )", false);
        next("( x", BEHIND_EXP + " , ; )", false);
        next("( x ,", EXP, false);
        next("( x , y", BEHIND_EXP + " , )", false);
        next("( x ;", EXP, false);
        next("( x ; y", BEHIND_EXP + " ; )", false);
        next("( x : t", BEHIND_TYPE + BEHIND_TYPED + " , ; )", false);
        next("( fn x => y", BEHIND_EXP + " | , ; )", false);
        next("[", EXP + " ]", false);
        next("[ x", BEHIND_EXP + " , ]", false);
        next("[ x ,", EXP, false);
        next("{", LABELS + " }", false);
        next("{ a", "=", false);
        next("{ a =", EXP, false);
        next("{ a = x", BEHIND_EXP + " , }", false);
        next("{ a = x ,", LABELS, false);
        next("( )", BEHIND_EXP + " ;", true);
        next("{ }", BEHIND_EXP + " ;", true);
        next("let", DECS + " in", false);
        next("let ;", DECS + " in", false);
        next("let val x = y", BEHIND_EXP + DECS + " and in", false);
        next("let in", EXP, false);
        next("let in x", BEHIND_EXP + " ; end", false);
        next("let in x ;", EXP, false);
        next("let in x end", BEHIND_EXP + " ;", true);
    }

    private static void patterns() {
        next("val", PAT + " 'a rec", false);
        next("val rec", PAT + " rec", false);
        next("val 'a", PAT + " rec", false);
        next("val (", PAT + " ) 'a", false);
        next("val ( 'a", ", )", false);
        next("val ( 'a ,", "'a", false);
        next("val ( 'a )", PAT + " rec", false);
        next("val x", PAT + OPERATORS + " : as =", false);
        next("val A.b", PAT + OPERATORS + " : =", false);
        next("val op", NAMES, false);
        next("val op x", PAT + OPERATORS + " : as =", false);
        next("val 1", OPERATORS + " : =", false);
        next("val x y", OPERATORS + " : =", false);
        next("val x +", PAT, false);
        next("val x + y", PAT + OPERATORS + " : =", false);
        next("val x : t", BEHIND_TYPE + " : as =", false);
        next("val x : t : u", BEHIND_TYPE + " : =", false);
        next("val x y : t", BEHIND_TYPE + " : =", false);
        next("val ( x ) : t", BEHIND_TYPE + " : =", false);
        next("val x as", PAT, false);
        next("val x as y", PAT + OPERATORS + " : as =", false);
        next("val ( x )", OPERATORS + " : =", false);
        next("val ( x", PAT + OPERATORS + " : as , )", false);
        next("val ( x ,", PAT, false);
        next("val [", PAT + " ]", false);
        next("val [ 1", OPERATORS + " : , ]", false);
        next("val {", LABELS + " ... }", false);
        next("val { a", "= : as , }", false);
        next("val { +", "= : as , }", false);
        next("val { 1", "=", false);
        next("val { ...", "}", false);
        next("val { a ,", LABELS + " ...", false);
        next("val { a : t", BEHIND_TYPE + " as , }", false);
        next("val { a as", PAT, false);
        next("val { a as b", PAT + OPERATORS + " : as , }", false);
        next("val { a =", PAT, false);
        next("val { a = x", PAT + OPERATORS + " : as , }", false);
        next("val rec x = 1 and", PAT + " rec", false);
        next("nonfix mod val", PAT + " 'a rec mod", false);
    }

    private static void types() {
        next("val x : (", TYPE, false);
        next("val x : ( t", BEHIND_TYPE + " , )", false);
        next("val x : ( t )", BEHIND_TYPE + " : as =", false);
        next("val x : ( t , u", BEHIND_TYPE + " , )", false);
        next("val x : ( t , u )", TYCONS, false);
        next("val x : ( t , u ) v", BEHIND_TYPE + " : as =", false);
        next("val x : {", LABELS + " }", false);
        next("val x : { a", ":", false);
        next("val x : { a : t", BEHIND_TYPE + " , }", false);
        next("val x : { a : t ,", LABELS, false);
        next("val x : t *", TYPE, false);
        next("val x : t ->", TYPE, false);
        next("val x : 'a", BEHIND_TYPE + " : as =", false);
        next("type", SHORT_TYCONS + " 'a (", false);
        next("type (", "'a", false);
        next("type ( 'a", ", )", false);
        next("type ( 'a )", SHORT_TYCONS, false);
        next("type t", "=", false);
        next("type t =", TYPE, false);
        next("type t = u", BEHIND_TYPE + " and" + DECS, true);
        next("type t = u and", SHORT_TYCONS + " 'a (", false);
    }

    private static void functions() {
        next("fun", PAT + " 'a", false);
        next("fun 'a", PAT, false);
        next("fun ( 'a )", PAT, false);
        next("fun op", NAMES + " =", false);
        next("fun op =", PAT, false);
        next("fun op = x", PAT + " :", false);
        next("fun op = x : t", BEHIND_TYPE, false);
        next("fun f", PAT + OPERATORS, false);
        next("fun op f", PAT, false);
        next("fun A.b", OPERATORS, false);
        next("fun 1", OPERATORS, false);
        next("fun f x", PAT + " : =", false);
        next("fun x +", PAT, false);
        next("fun x + y", ": =", false);
        next("fun ( x + y )", PAT + OPERATORS + " : =", false);
        next("fun ( x y )", OPERATORS, false);
        next("fun ( x + y z )", OPERATORS, false);
        next("fun ( x + y ) z", PAT + " : =", false);
        next("fun ( x + y ) + z", ": =", false);
        next("fun f x :", TYPE, false);
        next("fun f x : t", BEHIND_TYPE + " =", false);
        next("fun f x =", EXP, false);
        next("fun f x = y", BEHIND_EXP + " | and" + DECS, true);
        next("fun f x = y |", PAT, false);
        next("fun f x = y and", PAT, false);
    }

    private static void bindings() {
        next("datatype", SHORT_TYCONS + " 'a (", false);
        next("datatype t =", NAMES + " op datatype", false);
        next("datatype 'a t =", NAMES + " op", false);
        next("datatype t = op", NAMES, false);
        next("exception op", NAMES, false);
        next("datatype t = A", "of | and withtype" + DECS, true);
        next("datatype t = A |", NAMES + " op", false);
        next("datatype t = A of", TYPE, false);
        next("datatype t = A of u", BEHIND_TYPE + " | and withtype" + DECS, true);
        next("datatype t = A and", SHORT_TYCONS + " 'a (", false);
        next("datatype t = A and u =", NAMES + " op", false);
        next("datatype t = A withtype", SHORT_TYCONS + " 'a (", false);
        next("datatype t = A withtype u = v", BEHIND_TYPE + " and" + DECS, true);
        next("datatype t = datatype", TYCONS, false);
        next("datatype t = datatype u", DECS, true);
        next("abstype", SHORT_TYCONS + " 'a (", false);
        next("abstype t =", NAMES + " op", false);
        next("abstype t = A", "of | and withtype with", false);
        next("abstype t = A withtype u = v", BEHIND_TYPE + " and with", false);
        next("abstype t = A with", DECS + " end", false);
        next("abstype t = A with end", DECS, true);
        next("exception", NAMES + " op", false);
        next("exception E", "of = and" + DECS, true);
        next("exception E =", IDS, false);
        next("exception E = op", NAMES + " =", false);
        next("exception E = F", "and" + DECS, true);
        next("exception E of t", BEHIND_TYPE + " and" + DECS, true);
        next("exception E and", NAMES + " op", false);
        next("open", "x mod `* A.b", false);
        next("infix", NAMES + " 3 0", false);
        next("infixr", NAMES + " 3 0", false);
        next("infix 3", NAMES, false);
        next("nonfix", NAMES, false);
        next("infix a", NAMES + DECS, true);
        next("nonfix a", NAMES + DECS, true);
    }

    private static void scopes() {
        next("local", DECS + " in", false);
        next("local in", DECS + " end", false);
        next("local ; in ;", DECS + " end", false);
        next("let infix x in !", BEHIND_EXP.replace(" x ", " ") + " x ; end", false);
        next("let infix x in ! end ;", EXP + DECS, true);
        next("let infix x in", EXP.replace(" x ", " "), false);
        next("local infix x in val ! =", EXP.replace(" x ", " "), false);
        next("local infix x in end ;", EXP + DECS, true);
        next("local in infix x end ;", EXP.replace(" x ", " ") + DECS, true);
        next("abstype t = A with infix x end ;", EXP.replace(" x ", " ") + DECS, true);
    }
}
