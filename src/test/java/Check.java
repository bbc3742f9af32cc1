/** Counts the answers of a test that are not the ones that are due. */
final class Check {
    private int wrong = 0;
    private int made = 0;
    private int sentences = 0;
    private int madeBefore = 0;
    private String sentence = "";

    /** The sentence of the document that the checks from here on hold; each must have some. */
    void sentence(String text) {
        endSentence();
        sentence = text;
        sentences++;
        madeBefore = made;
    }

    private void endSentence() {
        if (!sentence.isEmpty() && made == madeBefore) {
            wrong++;
            System.out.println("no checks of: " + sentence);
        }
    }

    void due(String what, Object got, Object want) {
        made++;
        if (!want.equals(got)) {
            wrong++;
            String promise = sentence.isEmpty() ? "" : "\n  by       " + sentence;
            System.out.println(what + "\n  answered " + got + "\n  due is   " + want + promise);
        }
    }

    /** The tree of a text without places. */
    void tree(String text, String want) {
        due(text, new Text().read(new CoreSyntax(), text, false), want);
    }

    /** The tree of a text with places. */
    void placed(String text, String want) {
        due(text, new Text().read(new CoreSyntax(), text, true), want);
    }

    /** The tree of the one expression that a program is. */
    void exp(String text, String want) {
        tree(text, "decs([val(- [bind(.it " + want + ")])])");
    }

    /** Two texts with the same tree, but for places. */
    void alike(String text, String other) {
        String want = new Text().read(new CoreSyntax(), other, false);
        due("a fault in " + other, want.startsWith("fault"), false);
        tree(text, want);
    }

    /** A text with a fault, or "" for one without. */
    void fault(String text, int kind, int place) {
        String got = new Text().read(new CoreSyntax(), text, false);
        due(text, got.startsWith("fault") ? got : "no fault", "fault " + kind + " at " + place);
    }

    /** A text in which ~> stands before the token, or the end, at which a fault is due. */
    void faultAt(int kind, String text) {
        int mark = text.indexOf("~>");
        int place = new Text().tokens(text.substring(0, mark)).length;
        fault(text.substring(0, mark) + text.substring(mark + 2), kind, place);
    }

    void good(String text) {
        String got = new Text().read(new CoreSyntax(), text, false);
        due(text, got.startsWith("fault") ? got : "no fault", "no fault");
    }

    void end(String test) {
        endSentence();
        String many = sentences == 0 ? "" : sentences + " sentences, ";
        System.out.println(test + ": " + many + made + " checks, " + wrong + " wrong");
        if (wrong != 0) {
            System.exit(1);
        }
    }
}
