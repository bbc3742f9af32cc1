import java.util.ArrayList;
import java.util.LinkedHashMap;
import java.util.List;
import java.util.Map;
import java.util.Random;
import java.util.Set;

/**
 * Promise 4, fault 1: along random beginnings of programs, every token that may stand next by the
 * document's grammar, written out again here as rules, and no other.
 */
public final class GrammarWalkTest {
    private static final Check CHECK = new Check();
    /**
     * The document's grammar for the fixities at first. EC is an exp that does not end in a match
     * and EO one that does: | then goes on with the match. &amp; stands for the sign |. n2 n3 are names
     * that are no operators, o2 o3 operators but *, by kind; i0 iz id integers without a number, with
     * 0, and with more.
     */
    private static final String GRAMMAR = String.join("\n",
        "plain = n2 | n3",
        "oper = o2 | o3 | star",
        "NAME = plain | oper",
        "const = i0 | iz | id | c",
        "LABEL = NAME | id",
        "short = n2 | n3 | o2 | o3",
        "TYCON = short | long",
        "ID = plain | op NAME | op equals | long",
        "A = const | ID | { } | { fields } | # LABEL | ( ) | ( E ) | ( E , exps ) | ( E ; seq ) | [ ] | [ exps ] | let decs in seq end",
        "fields = LABEL equals E | LABEL equals E , fields",
        "exps = E | E , exps",
        "seq = E | E ; seq",
        "app = A | app A",
        "inf = app | inf oper app | inf equals app",
        "typed = inf | typed : T",
        "and = typed | and andalso typed",
        "or = and | or orelse and",
        "withC = FC | and andalso FC | or orelse FC | or orelse and andalso FC",
        "withO = FO | and andalso FO | or orelse FO | or orelse and andalso FO",
        "EC = or | withC",
        "EO = withO | or handle match",
        "E = EC | EO",
        "FC = raise EC | if E then E else EC | while E do EC",
        "FO = raise EO | if E then E else EO | while E do EO | case E of match | fn match",
        "match = P => E | P => EC & match",
        "patID = ID",
        "PB = _ | const | { } | { pfields } | ( ) | ( P ) | ( P , pats ) | [ ] | [ pats ]",
        "PA = PB | patID",
        "pats = P | P , pats",
        "pfields = pfield | pfield , pfields | ...",
        "pfield = LABEL equals P | NAME | NAME : T | NAME as P | NAME : T as P",
        "papp = PA | patID PA",
        "pinf = papp | pinf oper papp",
        "ptyped = pinf | ptyped : T",
        "lname = plain | op NAME",
        "P = ptyped | lname as P | lname : T as P",
        "T = prod | prod -> T",
        "prod = ta | prod star ta",
        "ta = tv | { } | { tfields } | ( T ) | TYCON | ( T , types ) TYCON | ta TYCON",
        "tfields = LABEL : T | LABEL : T , tfields",
        "types = T | T , types",
        "decs = | decs dec | decs ;",
        "dec = val tyvars binds | fun tyvars funs | type typbinds | datatype datbinds | datatype datbinds withtype typbinds",
        "dec = datatype short equals datatype TYCON | abstype datbinds with decs end",
        "dec = abstype datbinds withtype typbinds with decs end | exception exbinds | local decs in decs end | open structures",
        "tyvars = | tv | ( tvs )",
        "tvs = tv | tv , tvs",
        "binds = bind | bind and2 binds",
        "bind = rec bind | P equals E",
        "funs = clauses | clauses and2 funs",
        "clauses = head result equals E | head result equals EC & clauses",
        "result = | : T",
        "head = plain PAs | op NAME PAs | op equals PAs | left oper PA | ( PA oper PA ) | ( PA oper PA ) PAs",
        "left = PB | plain | long",
        "PAs = PA | PA PAs",
        "typbinds = tyvars short equals T | tyvars short equals T and2 typbinds",
        "datbinds = tyvars short equals conbinds | tyvars short equals conbinds and2 datbinds",
        "conbinds = conbind | conbind & conbinds",
        "conbind = con | con of T",
        "con = NAME | op NAME | op equals",
        "exbinds = exbind | exbind and2 exbinds",
        "exbind = con | con of T | con equals ID",
        "structures = structure | structure structures",
        "structure = n2 | o2 | long",
        "program = open0 | open1 | ended",
        "open0 = | open0 ; | open1 ; | ended ;",
        "open1 = open0 dec | open1 dec",
        "ended = open0 E");
    /** Every symbol of the grammar that is no rule, with texts of it. */
    private static final Map<String, String[]> TOKENS = tokens();

    public static void main(String[] args) {
        int walks = args.length > 0 ? Integer.parseInt(args[0]) : 150;
        int first = args.length > 1 ? Integer.parseInt(args[1]) : 0;
        Earley earley = new Earley("program", GRAMMAR);
        for (int seed = first; seed < first + walks; seed++) {
            walk(earley, new Random(seed));
        }
        CHECK.end("GrammarWalkTest");
    }

    private static Map<String, String[]> tokens() {
        Map<String, String[]> all = new LinkedHashMap<>();
        for (int word = 1; word < Text.WORDS.length; word++) {
            all.put(Text.WORDS[word], new String[] {Text.WORDS[word]});
        }
        all.put("and2", all.remove("and"));
        all.put("equals", all.remove("="));
        all.put("&", all.remove("|"));
        all.put("nowhere", new String[] {"%49", "%58"});
        all.put("n2", new String[] {"x", "y", "f"});
        all.put("n3", new String[] {"!", "`x"});
        all.put("o2", new String[] {"mod", "`*", "o"});
        all.put("o3", new String[] {"+", "`=", "@"});
        all.put("star", new String[] {"*"});
        all.put("tv", new String[] {"'a"});
        all.put("long", new String[] {"A.b"});
        all.put("i0", new String[] {"$1"});
        all.put("iz", new String[] {"0"});
        all.put("id", new String[] {"1", "10", "2"});
        all.put("c", new String[] {"'w1", "'c1", "'s1"});
        all.remove("infix");
        all.remove("infixr");
        all.remove("nonfix");
        return all;
    }

    private static void walk(Earley earley, Random random) {
        Earley.Beginning beginning = earley.new Beginning();
        StringBuilder text = new StringBuilder();
        int most = 3 + random.nextInt(40);
        for (int place = 0; place < most; place++) {
            Set<String> may = beginning.next();
            if (!standing(text.toString(), place, may, beginning.mayEnd())) {
                return;
            }
            List<String> choices = new ArrayList<>(may);
            String symbol = choices.get(random.nextInt(choices.size()));
            String[] texts = TOKENS.get(symbol);
            text.append(' ').append(texts[random.nextInt(texts.length)]);
            beginning.take(symbol);
        }
    }

    /** Compares what may stand behind a text; whether the text itself has no fault of another kind. */
    private static boolean standing(String text, int place, Set<String> may, boolean mayEnd) {
        CoreSyntax end = new CoreSyntax();
        String told = new Text().read(end, text, false);
        boolean faultAtEnd = end.fault(0) == 1 && end.fault(1) == place;
        if (end.fault(0) > 1) {
            return false;
        }
        CHECK.due("the end behind" + text, faultAtEnd ? "fault 1" : told.startsWith("fault") ? told : "none", mayEnd ? "none" : "fault 1");
        for (Map.Entry<String, String[]> token : TOKENS.entrySet()) {
            CoreSyntax x = new CoreSyntax();
            new Text().read(x, text + " " + token.getValue()[0], false);
            boolean refused = x.fault(0) == 1 && x.fault(1) <= place;
            CHECK.due("may stand behind" + text + " : " + token.getKey(), !refused, may.contains(token.getKey()));
        }
        return true;
    }
}
