/**
 * Sentences of the document that a further reading found without a test of their own, for promises 10 to 20: texts, sizes,
 * the order of formulas and truth. The comment at a test is the sentence.
 */
public final class SentenceFormulaTest {
    public static void main(String[] args) throws ReflectiveOperationException {
        Edge.runAll(SentenceFormulaTest.class);
    }

    // ---- 10 to 12

    /** Appends a character to the text buffer. */
    static void promise10ChangesTheTextAlone() {
        DynamicLogicProver x = Fixture.PLAIN.make();
        Check.due("the third character", x.appendChar('p'), 3);
        Check.due("p&p", x.parseFormula(), 4);
        Check.dueText("in the order in which they came", Check.text(x, 4), "((p-(p-0))-0)");
        Check.due("gone again", x.dropFormula(), 4);
        Check.type(x, "p&");
        Check.dueText("with the text once more", Fixture.trace(x), Fixture.PLAIN.trace());
    }

    private static void parsed(String text, String due) {
        DynamicLogicProver x = new DynamicLogicProver();
        Check.due("'" + text + "'", Check.parse(x, text), 0);
        Check.dueText("'" + text + "'", Check.text(x, 0), due);
    }

    /** Several "|", "&", "+" or ";" in a row are grouped from the left. */
    static void promise11RowsOfFourAreGroupedFromTheLeft() {
        parsed("[a;b;c;a]0", "[(((a;b);c);a)]0");
        parsed("[a+b+c+a]0", "[(((a+b)+c)+a)]0");
        parsed("[a;(b;(c;a))]0", "[(a;(b;(c;a)))]0");
        parsed("p|q|r|s", "((((((p-0)-q)-0)-r)-0)-s)");
        parsed("p&q&r&s", "((((((p-(q-0))-0)-(r-0))-0)-(s-0))-0)");
    }

    /** F: D, or D "-" F: implications are grouped from the right. */
    static void promise11ImplicationsAreGroupedFromTheRight() {
        parsed("p-q-r-s", "(p-(q-(r-s)))");
        parsed("((p-q)-r)-s", "(((p-q)-r)-s)");
        parsed("p|q-r&s-0", "(((p-0)-q)-(((r-(s-0))-0)-0))");
    }

    /** What binds how far, by the grammar: ! [P] <P> and ? take a U, * takes a B. */
    static void promise11HowFarASignReaches() {
        parsed("!p&q", "(((p-0)-(q-0))-0)");
        parsed("!p|q", "(((p-0)-0)-q)");
        parsed("[a]p&q", "(([a]p-(q-0))-0)");
        parsed("<a>p|q", "((([a](p-0)-0)-0)-q)");
        parsed("![a]!p", "([a](p-0)-0)");
        parsed("[a][b]p-q", "([a][b]p-q)");
        parsed("[?!p*]0", "[?(p-0)*]0");
        parsed("[?(p-q)*]0", "[?(p-q)*]0");
        parsed("[?[a*]p*;b]0", "[(?[a*]p*;b)]0");
        parsed("[a;b*+c]0", "[((a;b*)+c)]0");
        parsed("[a;(b+c)*]0", "[(a;(b+c)*)]0");
        parsed("[(a;b)**]0", "[(a;b)**]0");
    }

    /** 1 stands for 0-0, !G for G-0, G|H for !G-H, G&H for !(G-!H), and <P>G for ![P]!G. */
    static void promise11AnAbbreviationIsWhatItStandsFor() {
        String[][] pairs = {{"1", "0-0"}, {"!p", "p-0"}, {"p|q", "!p-q"}, {"p&q", "!(p-!q)"}, {"<a;b>p", "![a;b]!p"},
            {"<?1>1", "([?(0-0)]((0-0)-0))-0"}};
        for (String[] pair : pairs) {
            DynamicLogicProver x = new DynamicLogicProver();
            int f = Check.parse(x, pair[0]);
            int g = Check.parse(x, pair[1]);
            Check.due(pair[0] + " is " + pair[1], x.compareFormulas(f, g), 1);
            Check.due("sizes of " + pair[0], x.formulaSize(f), x.formulaSize(g));
        }
    }

    /** The canonical text of a formula is a formula text of the same formula. */
    static void promise11TheCanonicalTextOnceMore() {
        for (String text : new String[] {"0", "s", "p-q", "[a]p", "[a;b]p", "[a+b]p", "[a*]p", "[?q]p", "[?(p-q)*;(a+b)]([c]p-0)"}) {
            DynamicLogicProver x = new DynamicLogicProver();
            Check.parse(x, text);
            Check.due(text, Check.parse(x, Check.text(x, 0)), 1);
            Check.due("the same as " + text, x.compareFormulas(0, 1), 1);
        }
    }

    /** Deletes the formula with the largest number. */
    static void promise12DeletesOneFormulaAlone() {
        DynamicLogicProver x = Fixture.PLAIN.make();
        Check.due("the text that waits", x.count(3), 2);
        Check.due("drop", x.dropFormula(), 3);
        Check.due("the text waits on", x.count(3), 2);
        x.appendChar('p');
        x.parseFormula();
        x.dropFormula();
        Check.parse(x, "<a>p");
        Check.type(x, "p&");
        Check.dueText("with the formula once more", Fixture.trace(x), Fixture.PLAIN.trace());
    }

    // ---- 13 to 17

    /** Each occurrence of 0, a letter, an implication, a box, an atomic program, a sequence, a choice, ... counts 1. */
    static void promise13EveryPartCountsOne() {
        Object[] rows = {"0", 1, "r", 1, "p-q", 3, "[a]p", 3, "[a;b]p", 5, "[a+b]p", 5, "[a*]p", 4, "[?q]p", 4, "[c**]0", 5,
            "p-p", 3, "[a;a]0", 5, "p-p-p", 5, "((p))", 1, "[(a)]p", 3, "1", 3, "!p", 3, "p|q", 5, "p&q", 7, "<a>p", 7,
            "[?[a]p]p", 6, "[?1*]1", 9};
        for (int i = 0; i < rows.length; i += 2) {
            DynamicLogicProver x = new DynamicLogicProver();
            Check.due((String) rows[i], x.formulaSize(Check.parse(x, (String) rows[i])), (Integer) rows[i + 1]);
        }
    }

    /** Each of which, except the first one, is a part of the previous one. */
    static void promise14APartOfAPartAndNotBesideIt() {
        Object[] rows = {"[(a*;b*)*]p", 2, "[(a;b)*;c*]p", 1, "[(?p)*]p", 1, "[(?[a*]p;b*)*]p", 2, "[?[a*]p]p", 1,
            "[a*][b**]p", 2, "[b**][a*]p", 2, "[(a*+(b*;c)*)]p", 2, "[(?[b]p)*](p-[a*]q)", 1, "[(?(p-[a**]q))*]p", 3};
        for (int i = 0; i < rows.length; i += 2) {
            DynamicLogicProver x = new DynamicLogicProver();
            Check.due((String) rows[i], x.starHeight(Check.parse(x, (String) rows[i])), (Integer) rows[i + 1]);
        }
    }

    private static void ascending(String... texts) {
        DynamicLogicProver x = new DynamicLogicProver();
        for (String text : texts) {
            Check.parse(x, text);
        }
        Check.due("all are stored", x.count(2), texts.length);
        for (int f = 0; f < texts.length; f++) {
            for (int g = 0; g < texts.length; g++) {
                Check.due(texts[f] + " and " + texts[g], x.compareFormulas(f, g), 1 + Integer.compare(f, g));
            }
        }
    }

    /** Formulas of the same size are ordered by their canonical texts, lexicographically by character codes. */
    static void promise17TheSameSize() {
        ascending("0", "p", "q", "r", "s");
        ascending("0-0", "0-p", "0-s", "p-0", "p-p", "s-0", "[a]0", "[a]p", "[a]s", "[b]0", "[c]0", "[c]s");
        ascending("[?0]0", "[?0]s", "[?p]0", "[a*]0", "[a*]p", "[b*]0", "[c*]s");
        ascending("(0-0)-0", "0-0-0", "0-[a]0", "[a]0-0", "[a+a]0", "[a+b]0", "[a;a]0", "[b+a]0", "[?0*]0", "[a**]0", "[a](0-0)",
                "[a][a]0");
        ascending("0-[?0]0", "[?0]0-0", "[?(0-0)]0", "[?0**]0", "[?[a]0]0", "[a*](p-0)");
    }

    /** Formulas are ordered by their sizes, the smallest first. */
    static void promise17SizesFromOneOn() {
        ascending("s", "[c]s", "[c*]s", "(0-0)-0", "0-[?0]0", "(0-0)-(0-0)");
    }

    // ---- 18 to 20

    /** 0 is true nowhere, G-H is true in a world if G is false or H is true there. */
    static void promise18TheTruthOfEveryConnective() {
        DynamicLogicProver x = new DynamicLogicProver();
        x.setWorlds(4);
        for (int world = 0; world < 4; world++) {
            x.setLetter(world, 0, (world & 1) == 1);
            x.setLetter(world, 1, (world & 2) == 2);
        }
        Object[] rows = {"0", 0, "1", 15, "p", 10, "q", 12, "!p", 5, "p-q", 13, "q-p", 11, "p|q", 14, "p&q", 8, "p-p", 15,
            "p-0", 5, "0-p", 15};
        for (int i = 0; i < rows.length; i += 2) {
            int f = Check.parse(x, (String) rows[i]);
            int due = (Integer) rows[i + 1];
            Check.due((String) rows[i], x.extension(f), due);
            for (int world = 0; world < 4; world++) {
                Check.due(rows[i] + " in " + world, x.holds(f, world), due >> world & 1);
            }
            x.dropFormula();
        }
    }

    /** [P]G is true in a world if G is true in all worlds to which P has a run from there. */
    static void promise19ABoxAsksForAllAndADiamondForOne() {
        DynamicLogicProver x = new DynamicLogicProver();
        x.setWorlds(4);
        // world 0 leads to 2 and 3, world 1 to 3, world 2 nowhere, world 3 to itself; p in 3
        x.setTransition(2, 0, 2, true);
        x.setTransition(2, 0, 3, true);
        x.setTransition(2, 1, 3, true);
        x.setTransition(2, 3, 3, true);
        x.setLetter(3, 0, true);
        Check.due("[c]p", x.extension(Check.parse(x, "[c]p")), 14);
        Check.due("<c>p", x.extension(Check.parse(x, "<c>p")), 11);
        Check.due("[c]!p", x.extension(Check.parse(x, "[c]!p")), 4);
        Check.due("<c>!p", x.extension(Check.parse(x, "<c>!p")), 1);
        Check.due("[c*]p", x.extension(Check.parse(x, "[c*]p")), 8);
        Check.due("[c;c]p", x.extension(Check.parse(x, "[c;c]p")), 15);
    }

    /** Returns the worlds of the current model: the same formula after the model has changed. */
    static void promise19TheModelOfTheMoment() {
        DynamicLogicProver x = new DynamicLogicProver();
        int f = Check.parse(x, "<a>p");
        Check.due("no transition", x.extension(f), 0);
        x.setLetter(0, 0, true);
        x.setTransition(0, 0, 0, true);
        Check.due("a loop", x.extension(f), 1);
        x.save();
        x.setWorlds(2);
        Check.due("another model", x.extension(f), 0);
        x.loadModel(2, 1, 1, 2 + 8 + 32);
        Check.due("a model of a space", x.extension(f), 3);
        x.restore();
        Check.due("the first one", x.extension(f), 1);
        x.applyFilter(Check.parse(x, "0"));
        Check.due("without p", x.extension(f), 0);
    }

    /** The first stored formula, in the order of formulas: not the one with the smallest number. */
    static void promise20TheOrderOfFormulasAndNotOfNumbers() {
        DynamicLogicProver x = new DynamicLogicProver();
        x.setWorlds(2);
        x.setLetter(1, 1, true);
        Check.parse(x, "q|p");
        Check.due("alone", x.distinguish(0, 1), 0);
        Check.parse(x, "!q");
        Check.due("the smaller one", x.distinguish(0, 1), 1);
        Check.parse(x, "0-q");
        Check.due("no difference in it", x.distinguish(0, 1), 1);
        Check.parse(x, "1-q");
        Check.due("a larger one", x.distinguish(0, 1), 1);
        Check.parse(x, "p-q");
        Check.due("true in both", x.distinguish(0, 1), 1);
        Check.parse(x, "(0-q)&q");
        Check.parse(x, "[?q]0");
        Check.due("three parts before four", x.distinguish(0, 1), 1);
        Check.parse(x, "q");
        Check.due("one part", x.distinguish(0, 1), 7);
    }
}
