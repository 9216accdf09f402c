/** Promises 10 to 17: the text buffer, parsing, sizes, texts and the order of formulas. */
public final class FormulaTest {
    public static void main(String[] args) {
        appendChar();
        parses();
        faults();
        limits();
        dropFormula();
        sizes();
        order();
        Check.finish();
    }

    private static void appendChar() {
        DynamicLogicProver x = new DynamicLogicProver();
        Check.due("10: below", x.appendChar(-1), -2);
        Check.due("10: above", x.appendChar(128), -2);
        Check.due("10: smallest", x.appendChar(0), 1);
        Check.due("10: largest", x.appendChar(127), 2);
        for (int i = 3; i <= 100; i++) {
            Check.due("10: number", x.appendChar('p'), i);
        }
        Check.due("10: full", x.appendChar('p'), -4);
        Check.due("10: the range comes first", x.appendChar(128), -2);
        Check.due("10: the range comes first", x.appendChar(Integer.MIN_VALUE), -2);
        Check.due("10: still 100", x.count(3), 100);
        Check.due("11: a strange character is the fault", x.parseFormula(), -10);
        Check.due("11: the buffer is emptied", x.count(3), 0);
        Check.due("10: from the start again", x.appendChar('q'), 1);
    }

    private static void parsed(String text, String due) {
        DynamicLogicProver x = new DynamicLogicProver();
        Check.due("11: " + text, Check.parse(x, text), 0);
        Check.dueText("11: " + text, Check.text(x, 0), due);
        Check.due("11: the buffer after " + text, x.count(3), 0);
        Check.due("15: " + text, x.textLength(0), due.length());
    }

    private static void parses() {
        parsed("0", "0");
        parsed("1", "(0-0)");
        parsed("s", "s");
        parsed("!p", "(p-0)");
        parsed("p-q-r", "(p-(q-r))");
        parsed("p|q", "((p-0)-q)");
        parsed("p|q|r", "((((p-0)-q)-0)-r)");
        parsed("p&q", "((p-(q-0))-0)");
        parsed("p&q&r", "((((p-(q-0))-0)-(r-0))-0)");
        parsed("p|q&r", "((p-0)-((q-(r-0))-0))");
        parsed("p&q|r", "((((p-(q-0))-0)-0)-r)");
        parsed("p|q-r|s", "(((p-0)-q)-((r-0)-s))");
        parsed("(p-q)-r", "((p-q)-r)");
        parsed("!p-q", "((p-0)-q)");
        parsed("!!p", "((p-0)-0)");
        parsed("[a]p-q", "([a]p-q)");
        parsed("[a](p-q)", "[a](p-q)");
        parsed("<b>p", "([b](p-0)-0)");
        parsed("[a;b;c]p", "[((a;b);c)]p");
        parsed("[a+b+c]p", "[((a+b)+c)]p");
        parsed("[a+b;c]p", "[(a+(b;c))]p");
        parsed("[(a+b);c]p", "[((a+b);c)]p");
        parsed("[a;b*]p", "[(a;b*)]p");
        parsed("[a**]p", "[a**]p");
        parsed("[(a;b)*]p", "[(a;b)*]p");
        parsed("[?p]q", "[?p]q");
        parsed("[?p*]q", "[?p*]q");
        parsed("[?[a]p*]q", "[?[a]p*]q");
        parsed("[?(p-q)+?!p;c]q", "[(?(p-q)+(?(p-0);c))]q");
        parsed("<?<a>p>[b]1", "([?([a](p-0)-0)]([b](0-0)-0)-0)");
        parsed("((p))", "p");
        parsed("[((a))]p", "[a]p");
    }

    private static void fault(String text, int position) {
        DynamicLogicProver x = new DynamicLogicProver();
        Check.due("11: fault of " + text, Check.parse(x, text), -10 - position);
        Check.due("11: no formula of " + text, x.count(2), 0);
        Check.due("11: the buffer after " + text, x.count(3), 0);
    }

    private static void faults() {
        fault("", 0);
        fault("a", 0);
        fault("pq", 1);
        fault("p-", 2);
        fault("p)", 1);
        fault("(p", 2);
        fault("(p]", 2);
        fault("()", 1);
        fault("[a]", 3);
        fault("[a>p", 2);
        fault("<a]p", 2);
        fault("[p]p", 1);
        fault("[]p", 1);
        fault("[a;]p", 3);
        fault("[a+*]p", 3);
        fault("[*]p", 1);
        fault("[?]p", 2);
        fault("[?a]p", 2);
        fault("[?p-q]p", 3);
        fault("[(a;b]p", 5);
        fault("p--q", 2);
        fault("p||q", 2);
        fault("&p", 0);
        fault("p*", 1);
        fault("p q", 1);
        fault("[a]p[", 4);
        fault("!", 1);
        fault("t", 0);
        fault("2", 0);
        fault("[d]p", 1);
    }

    private static void limits() {
        parsed("!".repeat(12) + "p", "(".repeat(12) + "p" + "-0)".repeat(12));
        fault("!".repeat(13) + "p", 12);
        parsed("(".repeat(12) + "p" + ")".repeat(12), "p");
        fault("(".repeat(13) + "p" + ")".repeat(13), 12);
        parsed("[a]".repeat(12) + "p", "[a]".repeat(12) + "p");
        fault("[a]".repeat(13) + "p", 36);
        fault("<a>".repeat(12) + "<a>p", 36);
        parsed("[" + "(".repeat(11) + "a" + ")".repeat(11) + "]p", "[a]p");
        fault("[" + "(".repeat(12) + "a" + ")".repeat(12) + "]p", 12);
        parsed("[?!!!!!!!!!!p]p", "[?" + "(".repeat(10) + "p" + "-0)".repeat(10) + "]p");
        fault("[?!!!!!!!!!!!p]p", 12);
        fault("[(".repeat(6) + "?p", 2);
        // an opened part is closed at its end, so a row of them is fine
        DynamicLogicProver x = new DynamicLogicProver();
        Check.due("11: thirteen one after the other", Check.parse(x, "!p|".repeat(12) + "!p"), 0);
        Check.due("13: thirteen one after the other", x.formulaSize(0), 75);
        x.dropFormula();
        Check.due("11: size 79", Check.parse(x, "p-".repeat(39) + "p"), 0);
        Check.due("13: size 79", x.formulaSize(0), 79);
        Check.due("11: size 81", Check.parse(x, "p-".repeat(40) + "p"), -5);
        Check.due("11: emptied after a formula that is too large", x.count(3), 0);
        Check.due("11: size 80", Check.parse(x, "p-".repeat(37) + "[a*]p-0"), 1);
        Check.due("13: size 80", x.formulaSize(1), 80);
        Check.due("11: height 3", Check.parse(x, "[a***]p"), 2);
        Check.due("11: height 4", Check.parse(x, "[a****]p"), -5);
        Check.due("11: emptied after a formula that is too deep", x.count(3), 0);
        Check.due("11: height through tests", Check.parse(x, "[(?[(?[a*]p)**]p)*]p"), -5);
        while (x.count(2) < 12) {
            Check.due("11: next number", Check.parse(x, "q"), x.count(2) - 1);
        }
        Check.type(x, "[[");
        Check.due("11: twelve formulas come first", x.parseFormula(), -4);
        Check.due("11: the buffer stays", x.count(3), 2);
        Check.due("12: drop", x.dropFormula(), 11);
        Check.due("11: the fault comes second", x.parseFormula(), -11);
        Check.due("11: a fault at the end of a full buffer", Check.parse(x, "p-".repeat(49) + "p)"), -109);
        Check.due("11: a full buffer that ends too early", Check.parse(x, "p-".repeat(50)), -110);
    }

    private static void dropFormula() {
        DynamicLogicProver x = new DynamicLogicProver();
        Check.due("12: none", x.dropFormula(), -5);
        Check.parse(x, "p");
        Check.parse(x, "[a]q");
        Check.due("12: the largest number", x.dropFormula(), 1);
        Check.due("12: it is gone", x.formulaSize(1), -1);
        Check.due("12: the other stays", x.textChar(0, 0), 'p');
        Check.due("11: the number is free", Check.parse(x, "s"), 1);
        Check.due("16: the new one", x.textChar(1, 0), 's');
        Check.due("12: drop", x.dropFormula(), 1);
        Check.due("12: drop", x.dropFormula(), 0);
        Check.due("12: none again", x.dropFormula(), -5);
    }

    private static void sizes() {
        DynamicLogicProver x = new DynamicLogicProver();
        int f = Check.parse(x, "<a;?p*>(q|0)");
        Check.due("13: size", x.formulaSize(f), 15);
        Check.due("14: height", x.starHeight(f), 1);
        String text = "([(a;?p*)](((q-0)-0)-0)-0)";
        Check.dueText("16: text", Check.text(x, f), text);
        Check.due("15: length", x.textLength(f), text.length());
        Check.due("16: after the last", x.textChar(f, text.length()), -5);
        Check.due("16: before the first", x.textChar(f, -1), -5);
        Check.due("16: far away", x.textChar(f, Integer.MAX_VALUE), -5);
        Check.due("16: far away", x.textChar(f, Integer.MIN_VALUE), -5);
        Check.due("14: no iteration", x.starHeight(Check.parse(x, "[a;b]p")), 0);
        Check.due("14: side by side", x.starHeight(Check.parse(x, "[a*;b*][c*]p")), 1);
        Check.due("14: one in another", x.starHeight(Check.parse(x, "[(a*;b)*]p")), 2);
        Check.due("14: in a test", x.starHeight(Check.parse(x, "[(?[a*]p)*]p")), 2);
        Check.due("14: three", x.starHeight(Check.parse(x, "p-[((a*+b)*;c)*]p")), 3);
        for (int wrong : new int[] {-1, x.count(2), 12, Integer.MAX_VALUE, Integer.MIN_VALUE}) {
            Check.due("13: wrong", x.formulaSize(wrong), -1);
            Check.due("14: wrong", x.starHeight(wrong), -1);
            Check.due("15: wrong", x.textLength(wrong), -1);
            Check.due("16: wrong", x.textChar(wrong, 0), -1);
            Check.due("16: the formula comes first", x.textChar(wrong, -1), -1);
            Check.due("17: wrong", x.compareFormulas(wrong, 0), -1);
            Check.due("17: wrong", x.compareFormulas(0, wrong), -1);
        }
    }

    private static void order() {
        DynamicLogicProver x = new DynamicLogicProver();
        int p = Check.parse(x, "p");
        int zero = Check.parse(x, "0");
        int s = Check.parse(x, "s");
        int implies = Check.parse(x, "0-0");
        int box = Check.parse(x, "[a]0");
        int one = Check.parse(x, "1");
        Check.due("17: 0 before p", x.compareFormulas(zero, p), 0);
        Check.due("17: p after 0", x.compareFormulas(p, zero), 2);
        Check.due("17: itself", x.compareFormulas(p, p), 1);
        Check.due("17: the same formula twice", x.compareFormulas(implies, one), 1);
        Check.due("17: size counts first", x.compareFormulas(s, implies), 0);
        Check.due("17: ( before [", x.compareFormulas(implies, box), 0);
        Check.due("17: [ after (", x.compareFormulas(box, implies), 2);
        int star = Check.parse(x, "[a*]p");
        int test = Check.parse(x, "[?p]p");
        Check.due("17: ? before a", x.compareFormulas(test, star), 0);
        int sequence = Check.parse(x, "[a;b]p");
        int choice = Check.parse(x, "[a+b]p");
        Check.due("17: + before ;", x.compareFormulas(choice, sequence), 0);
        int boxes = Check.parse(x, "[a][b]p");
        Check.due("17: ( before a", x.compareFormulas(sequence, boxes), 0);
        Check.due("17: the end decides", x.compareFormulas(boxes, Check.parse(x, "[a][b]q")), 0);
    }
}
