/** Promises 39 to 43: search in model spaces, validity, satisfiability and entailment. */
public final class DecisionTest {
    public static void main(String[] args) {
        counterModels();
        valid();
        possible();
        manyAtoms();
        limits();
        entails();
        wrongArguments();
        Check.finish();
    }

    private static void counterModels() {
        DynamicLogicProver x = new DynamicLogicProver();
        int p = Check.parse(x, "p");
        int box = Check.parse(x, "[a]p");
        int some = Check.parse(x, "<a>p");
        int last = Check.parse(x, "[c]0");
        int one = Check.parse(x, "1");
        Check.due("39: p", x.counterModels(p, 1, 1, 0), 1);
        Check.due("40: p", x.firstCounterModel(p, 1, 1, 0), 0);
        Check.due("39: all letters and programs", x.counterModels(p, 1, 4, 3), 64);
        Check.due("39: ten bits", x.counterModels(p, 5, 2, 0), 512);
        Check.due("39: p is false without letters", x.counterModels(p, 1, 0, 0), 1);
        Check.due("40: p is false without letters", x.firstCounterModel(p, 6, 0, 0), 0);
        Check.due("39: [a]p", x.counterModels(box, 1, 1, 1), 1);
        Check.due("40: [a]p", x.firstCounterModel(box, 1, 1, 1), 2);
        Check.due("40: [a]p in two worlds", x.firstCounterModel(box, 2, 1, 1), 4);
        Check.due("39: [a]p without programs", x.counterModels(box, 2, 1, 0), 0);
        Check.due("40: [a]p without programs", x.firstCounterModel(box, 2, 1, 0), -5);
        Check.due("39: <a>p in two worlds", x.counterModels(some, 2, 1, 1), 4 * (4 + 2 + 2 + 1));
        Check.due("40: <a>p in two worlds", x.firstCounterModel(some, 2, 1, 1), 0);
        Check.due("39: c is there with three programs", x.counterModels(last, 1, 0, 3), 4);
        Check.due("40: c is there with three programs", x.firstCounterModel(last, 1, 0, 3), 4);
        Check.due("39: c is not there with two", x.counterModels(last, 1, 0, 2), 0);
        Check.due("39: never", x.counterModels(one, 3, 0, 1), 0);
        Check.due("40: never", x.firstCounterModel(one, 3, 0, 1), -5);
        Check.due("39: the whole space", x.counterModels(Check.parse(x, "0"), 2, 1, 2), 1024);
        int[][] wrong = {{0, 0, 0}, {7, 0, 0}, {1, 5, 0}, {1, -1, 0}, {1, 0, 4}, {1, 0, -1}, {2, 2, 2}, {4, 0, 1},
            {Integer.MAX_VALUE, 0, 0}, {1, Integer.MIN_VALUE, 0}, {1, 0, Integer.MAX_VALUE}, {65536, 0, 1}};
        for (int[] row : wrong) {
            Check.due("39: no such space", x.counterModels(p, row[0], row[1], row[2]), -2);
            Check.due("40: no such space", x.firstCounterModel(p, row[0], row[1], row[2]), -2);
            Check.due("39: the formula comes first", x.counterModels(-1, row[0], row[1], row[2]), -1);
            Check.due("40: the formula comes first", x.firstCounterModel(12, row[0], row[1], row[2]), -1);
        }
        Check.due("39: the model stays", x.count(0), 1);
    }

    private static void decided(String text, int valid, int possible) {
        DynamicLogicProver x = new DynamicLogicProver();
        int f = Check.parse(x, text);
        Check.due("41: " + text, x.isValid(f), valid);
        Check.due("42: " + text, x.isSatisfiable(f), possible);
    }

    private static void valid() {
        decided("1", 1, 1);
        decided("p-p", 1, 1);
        decided("p-q-p", 1, 1);
        decided("((p-q)-p)-p", 1, 1);
        decided("[a](p-q)-[a]p-[a]q", 1, 1);
        decided("[a;b]p-[a][b]p", 1, 1);
        decided("[a][b]p-[a;b]p", 1, 1);
        decided("[a+b]p-[a]p&[b]p", 1, 1);
        decided("[?p]q-p-q", 1, 1);
        decided("[a*]p-p&[a][a*]p", 1, 1);
        decided("p&[a*](p-[a]p)-[a*]p", 1, 1);
        decided("[a*]p-[a**]p", 1, 1);
        decided("[a**]p-[a*]p", 1, 1);
        decided("[a*]p-[a;a]p", 1, 1);
        decided("[(a;a)*]p-[(a;a;a)*]p", 0, 1);
        decided("[a*]p-[(a;a)*]p", 1, 1);
        decided("<a*>p-p|<a><a*>p", 1, 1);
        decided("<a*>p-p|<a*>(!p&<a>p)", 1, 1);
        decided("[(a+b)*]p-[(a*;b*)*]p", 1, 1);
        decided("[(a*;b*)*]p-[(a+b)*]p", 1, 1);
        decided("[(?p)*]q-q", 1, 1);
        decided("q-[(?p)*]q", 1, 1);
        decided("[(?p;a)*;?!p]!p", 1, 1);
        decided("[?0*]p-p", 1, 1);
    }

    private static void possible() {
        decided("0", 0, 0);
        decided("p", 0, 1);
        decided("!p", 0, 1);
        decided("p&!p", 0, 0);
        decided("[a]0", 0, 1);
        decided("<a>0", 0, 0);
        decided("[a*]0", 0, 0);
        decided("<a*>0", 0, 0);
        decided("[a*]<a>1", 0, 1);
        decided("[a*]p&<a*>!p", 0, 0);
        decided("[a*]p&<a;a;a>!p", 0, 0);
        decided("p&[a*](p-<a>p)&[a*]<a>!p", 0, 1);
        decided("<a*>p&[a*](p-0)", 0, 0);
        decided("<(?p;a)*>!p&[a*]p", 0, 0);
        decided("[a]p-p", 0, 1);
        decided("p-[a]p", 0, 1);
        decided("[a*]p-[b]p", 0, 1);
        decided("[(?p+a)*]q&!q", 0, 0);
        decided("<?p*;a>1&[a]0", 0, 0);
        decided("[?[a]p]q&!q&[a]p", 0, 0);
        decided("[?[a]p]q&!q&<a>p", 0, 1);
    }

    /** Eight base members: the sets of atoms take more than one word. */
    private static void manyAtoms() {
        decided("[a*]p&[b*]q&r&s-[a*][a*]p", 1, 1);
        decided("p&q&r&s&[a*]p&[b]q&<a;a>!p", 0, 0);
        decided("p&q&r&s&[a*]p&[b*]q&[c*]r&<b>1", 0, 1);
        decided("p|q|r|s|[a*]p|[b*]q|[c*]r|1", 1, 1);
        decided("<a*>p&<b*>q&<c*>r&[a]s&!p&!q&!r", 0, 1);
        decided("<a*>p&[a*]!p&(q|r|s|[b]q|[c]r)", 0, 0);
        decided("q&r&s&[b]q&p&[a*](p-[a]p)-[a*]p", 1, 1);
        decided("q&r&s&[b]q&p&[a*](p-[a]p)-[a*]q", 0, 1);
        decided("[(a;b;c)*]p-[a;b;c]p&p", 1, 1);
        decided("[(a;b;c)*]p&<(a;b;c)*>!p", 0, 0);
        decided("q&[(a;b;c)*]p&<(a;b;c)*>q", 0, 1);
        // the worlds that a leads to would have to break an induction
        decided("![a][b]q&[a](p&[c*](p-[c]p)&![c*]p)", 0, 0);
        decided("![a][b]q&[a](p&[c*](p-[c]p)&[c*]p)", 0, 1);
    }

    private static void limits() {
        decided("p&q&r&s&[a]p&[b]p&[c]p&[a]q", 0, 1);
        decided("p-q-r-s-[a]p-[b]p-[c]p-[a]q-[a]q", 1, 1);
        DynamicLogicProver x = new DynamicLogicProver();
        int f = Check.parse(x, "p-q-r-s-[a]p-[b]p-[c]p-[a]q-[b]q-p");
        Check.due("28: nine base members", x.baseMembers(f), 9);
        Check.due("41: nine base members", x.isValid(f), -4);
        Check.due("42: nine base members", x.isSatisfiable(f), -4);
        Check.due("43: nine base members", x.entails(f, f), -4);
        int g = Check.parse(x, "p-q-r-s-[a]p-[b]p-[c]p-[a]q");
        int h = Check.parse(x, "[b]q");
        Check.due("43: eight and one more", x.entails(g, h), -4);
        Check.due("43: eight and one of them", x.entails(g, Check.parse(x, "p-p")), 1);
        Check.due("43: eight and one of them", x.entails(g, Check.parse(x, "p")), 0);
    }

    private static void entails() {
        DynamicLogicProver x = new DynamicLogicProver();
        int all = Check.parse(x, "[a*]p");
        int two = Check.parse(x, "[a;a]p");
        int none = Check.parse(x, "0");
        Check.due("43: weaker", x.entails(all, two), 1);
        Check.due("43: stronger", x.entails(two, all), 0);
        Check.due("43: itself", x.entails(two, two), 1);
        Check.due("43: from 0", x.entails(none, all), 1);
        Check.due("43: to 0", x.entails(all, none), 0);
        Check.due("43: 0 to 0", x.entails(none, none), 1);
        // the largest closures that fit
        int large = Check.parse(x, "[" + "?p;".repeat(25) + "a]p");
        Check.due("43: size", x.formulaSize(large), 78);
        int other = Check.parse(x, "[" + "?q+".repeat(25) + "a]p");
        Check.due("43: large", x.entails(large, other), 0);
        Check.due("43: large", x.entails(other, large), 1);
    }

    private static void wrongArguments() {
        DynamicLogicProver x = new DynamicLogicProver();
        int f = Check.parse(x, "p");
        for (int wrong : new int[] {-1, 1, 12, Integer.MAX_VALUE, Integer.MIN_VALUE}) {
            Check.due("39: wrong", x.counterModels(wrong, 1, 1, 1), -1);
            Check.due("40: wrong", x.firstCounterModel(wrong, 1, 1, 1), -1);
            Check.due("41: wrong", x.isValid(wrong), -1);
            Check.due("42: wrong", x.isSatisfiable(wrong), -1);
            Check.due("43: wrong", x.entails(wrong, f), -1);
            Check.due("43: wrong", x.entails(f, wrong), -1);
        }
    }
}
