/** Edges of promises 1, 2, 3 and 8, and of the terms' sentences on tokens: what is a token, and how many there are. */
public final class TokenEdgeTest {
    private static final Check CHECK = new Check();
    private static final int LEAST = Integer.MIN_VALUE;
    private static final int MOST = Integer.MAX_VALUE;

    public static void main(String[] args) {
        kinds();
        words();
        names();
        longNamesAndConstants();
        numbers();
        numbersOfOtherKinds();
        refusedWhenOneThingIsWrong();
        refusedLeavesAll();
        aTokenMore();
        full();
        fullAndNone();
        fullIsOver();
        clearTellsHowMany();
        clearLeavesTreeAndFixities();
        howManyTokens();
        newObject();
        CHECK.end("TokenEdgeTest");
    }

    private static void accepted(int kind, int value, int number) {
        CoreSyntax x = new CoreSyntax();
        CHECK.due("token(" + kind + ", " + value + ", " + number + ")", x.token(kind, value, number), 1);
        CHECK.due("tokens() then", x.tokens(), 1);
    }

    private static void refused(int kind, int value, int number) {
        CoreSyntax x = new CoreSyntax();
        CHECK.due("token(" + kind + ", " + value + ", " + number + ")", x.token(kind, value, number), CoreSyntax.NONE);
        CHECK.due("tokens() then", x.tokens(), 0);
    }

    private static void kinds() {
        CHECK.sentence("Promise 2: NONE when there is none such (kinds 1 .. 9)");
        for (int kind = 1; kind <= 9; kind++) {
            accepted(kind, 1, -1);
        }
        for (int kind : new int[] {0, 10, -1, 11, LEAST, MOST}) {
            refused(kind, 1, -1);
        }
    }

    private static void words() {
        CHECK.sentence("Promise 2: words 1 .. 58");
        for (int word = 1; word <= 58; word++) {
            accepted(1, word, -1);
        }
        for (int word : new int[] {0, -1, 59, 60, LEAST, MOST}) {
            refused(1, word, -1);
        }
    }

    private static void names() {
        CHECK.sentence("Promise 2: names 0 .. 8191");
        for (int kind = 2; kind <= 4; kind++) {
            for (int name : new int[] {0, 1, 58, 59, 8190, 8191}) {
                accepted(kind, name, -1);
            }
            for (int name : new int[] {-1, -2, 8192, 8193, 32767, LEAST, MOST}) {
                refused(kind, name, -1);
            }
        }
    }

    private static void longNamesAndConstants() {
        CHECK.sentence("Promise 2: long names and constants 0 .. 32767");
        for (int kind = 5; kind <= 9; kind++) {
            for (int value : new int[] {0, 1, 8191, 8192, 32766, 32767}) {
                accepted(kind, value, -1);
            }
            for (int value : new int[] {-1, -2, 32768, 32769, LEAST, MOST}) {
                refused(kind, value, -1);
            }
        }
    }

    private static void numbers() {
        CHECK.sentence("Terms: the number is -1, but for kind 6 it may be a plain one, 0 .. 9999");
        for (int number : new int[] {-1, 0, 1, 9, 10, 9998, 9999}) {
            accepted(6, 0, number);
            accepted(6, 32767, number);
        }
        for (int number : new int[] {-2, -3, 10000, 10001, LEAST, MOST}) {
            refused(6, 0, number);
        }
    }

    private static void numbersOfOtherKinds() {
        CHECK.sentence("Terms: the number is -1 (of every other kind)");
        for (int kind : new int[] {1, 2, 3, 4, 5, 7, 8, 9}) {
            accepted(kind, 1, -1);
            for (int number : new int[] {-2, 0, 1, 9999, LEAST, MOST}) {
                refused(kind, 1, number);
            }
        }
    }

    private static void refusedWhenOneThingIsWrong() {
        CHECK.sentence("Promise 2: refused, when there is none such (one of the three is enough)");
        accepted(6, 32767, 9999);
        refused(6, 32768, 9999);
        refused(6, 32767, 10000);
        refused(6, -1, 0);
        refused(0, 32767, 9999);
        refused(10, 0, 0);
        refused(7, 32767, 9999);
    }

    private static void refusedLeavesAll() {
        CHECK.sentence("Promise 2: a token that is refused is not there");
        CoreSyntax x = new CoreSyntax();
        CHECK.due("val", x.token(1, 29, -1), 1);
        CHECK.due("no word", x.token(1, 59, -1), CoreSyntax.NONE);
        CHECK.due("_", x.token(1, 43, -1), 2);
        CHECK.due("no name", x.token(2, 8192, -1), CoreSyntax.NONE);
        CHECK.due("=", x.token(1, 45, -1), 3);
        CHECK.due("no number", x.token(6, 5, 10000), CoreSyntax.NONE);
        CHECK.due("5", x.token(6, 5, 9999), 4);
        CHECK.due("no kind", x.token(10, 5, -1), CoreSyntax.NONE);
        CHECK.due("tokens", x.tokens(), 4);
        CHECK.due("parse of the four", x.parse(), 7);
        CHECK.due("place of 5", x.node(6, 4), 3);
    }

    private static void aTokenMore() {
        CHECK.sentence("Promise 2: a token more: how many there are");
        CoreSyntax x = new CoreSyntax();
        CHECK.due("the first", x.token(1, 41, -1), 1);
        CHECK.due("the same once more", x.token(1, 41, -1), 2);
        CHECK.due("the third", x.token(9, 0, -1), 3);
        x.parse();
        CHECK.due("the first behind a parse", x.token(1, 41, -1), 1);
        x.clear();
        CHECK.due("the first behind clear", x.token(1, 41, -1), 1);
    }

    private static CoreSyntax holding(int many) {
        CoreSyntax x = new CoreSyntax();
        int wrong = 0;
        for (int k = 1; k <= many; k++) {
            wrong += x.token(1, 41, -1) == k ? 0 : 1;
        }
        CHECK.due("wrong counts up to " + many, wrong, 0);
        return x;
    }

    private static void full() {
        CHECK.sentence("Promise 2: FULL when there are 3000");
        CoreSyntax x = holding(2998);
        CHECK.due("with 2998", x.token(1, 41, -1), 2999);
        CHECK.due("with 2999", x.token(1, 41, -1), 3000);
        CHECK.due("with 3000", x.token(1, 41, -1), CoreSyntax.FULL);
        CHECK.due("tokens when full", x.tokens(), 3000);
        CHECK.due("with 3000 again", x.token(6, 32767, 9999), CoreSyntax.FULL);
        CHECK.due("tokens still", x.tokens(), 3000);
    }

    private static void fullAndNone() {
        CHECK.sentence("Promise 2: NONE is told before FULL");
        CoreSyntax x = holding(3000);
        CHECK.due("no kind", x.token(0, 0, -1), CoreSyntax.NONE);
        CHECK.due("no word", x.token(1, 59, -1), CoreSyntax.NONE);
        CHECK.due("no number", x.token(6, 0, -2), CoreSyntax.NONE);
        CHECK.due("a token", x.token(1, 58, -1), CoreSyntax.FULL);
        CHECK.due("tokens", x.tokens(), 3000);
    }

    private static void fullIsOver() {
        CHECK.sentence("Promises 3 and 4: there are none any more then, so that 3000 may come again");
        CoreSyntax x = holding(3000);
        CHECK.due("clear", x.clear(), 3000);
        CHECK.due("tokens", x.tokens(), 0);
        for (int k = 1; k <= 3000; k++) {
            x.token(1, 41, -1);
        }
        CHECK.due("tokens again", x.tokens(), 3000);
        CHECK.due("parse", x.parse(), 1);
        CHECK.due("tokens behind it", x.tokens(), 0);
        for (int k = 1; k < 3000; k++) {
            x.token(1, 41, -1);
        }
        CHECK.due("the last that has room", x.token(1, 41, -1), 3000);
        CHECK.due("one more", x.token(1, 41, -1), CoreSyntax.FULL);
    }

    private static void clearTellsHowMany() {
        CHECK.sentence("Promise 3: there are no tokens any more: how many there were");
        CoreSyntax x = new CoreSyntax();
        CHECK.due("clear of none", x.clear(), 0);
        x.token(1, 29, -1);
        CHECK.due("clear of one", x.clear(), 1);
        CHECK.due("tokens", x.tokens(), 0);
        CHECK.due("clear again", x.clear(), 0);
        x.token(1, 0, -1);
        CHECK.due("clear behind a refused one", x.clear(), 0);
        new Text().give(x, "val (");
        x.parse();
        CHECK.due("clear behind a fault", x.clear(), 0);
        new Text().give(x, "val ( (");
        x.clear();
        new Text().give(x, "1");
        CHECK.due("nothing of what was cleared is read", x.parse(), 7);
    }

    private static void clearLeavesTreeAndFixities() {
        CHECK.sentence("Promise 3: the tree and fixities stay");
        CoreSyntax x = new CoreSyntax();
        Text text = new Text();
        String tree = text.read(x, "infix 5 a ; # 1", true);
        int nodes = x.nodes();
        text.give(x, "nonfix a val");
        CHECK.due("clear", x.clear(), 3);
        CHECK.due("nodes", x.nodes(), nodes);
        CHECK.due("tree", text.show(x, 0, true), tree);
        CHECK.due("fresh", x.fresh(), 1);
        CHECK.due("fixity", x.fixity(text.name("a")), 10);
        CHECK.due("retreat", x.retreat(), true);
        text.read(x, "val )", false);
        text.give(x, "1");
        x.clear();
        CHECK.due("no tree stays none", x.nodes(), 0);
        CHECK.due("the fault stays too", x.fault(0) + " at " + x.fault(1), "1 at 1");
    }

    private static void howManyTokens() {
        CHECK.sentence("Promise 8: how many tokens there are");
        CoreSyntax x = new CoreSyntax();
        CHECK.due("none", x.tokens(), 0);
        x.token(1, 1, -1);
        CHECK.due("one", x.tokens(), 1);
        x.token(1, 0, -1);
        CHECK.due("one and a refused one", x.tokens(), 1);
        x.tokens();
        x.retreat();
        x.fault(0);
        CHECK.due("other calls leave it", x.tokens(), 1);
        x.parse();
        CHECK.due("behind a fault", x.tokens(), 0);
        x.token(1, 41, -1);
        x.token(1, 41, -1);
        x.parse();
        CHECK.due("behind a good parse", x.tokens(), 0);
    }

    private static void newObject() {
        CHECK.sentence("Promise 1: no tokens, no tree; fixities as at first");
        CoreSyntax other = new CoreSyntax();
        new Text().read(other, "infix 3 a nonfix + ; # 1", false);
        CoreSyntax x = new CoreSyntax();
        CHECK.due("tokens", x.tokens(), 0);
        CHECK.due("clear", x.clear(), 0);
        CHECK.due("nodes", x.nodes(), 0);
        CHECK.due("fresh", x.fresh(), 0);
        CHECK.due("node(0, 0)", x.node(0, 0), CoreSyntax.NONE);
        CHECK.due("length(0)", x.length(0), 0);
        CHECK.due("item(0, 0)", x.item(0, 0), CoreSyntax.NONE);
        CHECK.due("behind(0)", x.behind(0), CoreSyntax.NONE);
        CHECK.due("same(0, 0)", x.same(0, 0), false);
        CHECK.due("fault", x.fault(0) + " at " + x.fault(1), "0 at -1");
        CHECK.due("retreat", x.retreat(), false);
        for (int name = 0; name < 8192; name++) {
            int want = name < Text.NAMES.length ? Text.firstFixity(name) : CoreSyntax.NONE;
            CHECK.due("fixity(" + name + ")", x.fixity(name), want);
        }
    }
}
