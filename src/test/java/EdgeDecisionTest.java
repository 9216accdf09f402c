/** The boundary cases of promises 39 to 43: search in model spaces, validity, satisfiability and entailment. */
public final class EdgeDecisionTest {
    private static final int[] FORMULAS = {Edge.MIN, -1, 0, 1, 2, 3, 4, 5, 12, Edge.MAX};
    /** Each has eight base members: four letters and four boxes. */
    private static final String EIGHT = "p-q-r-s-[a]p-[b]p-[c]p-[a]q";

    public static void main(String[] args) throws ReflectiveOperationException {
        Edge.runAll(EdgeDecisionTest.class);
    }

    private static boolean in(int number) {
        return Edge.isIn(number, 0, 3);
    }

    private static int bits(long w, long k, long m) {
        boolean in = w >= 1 && w <= 6 && k >= 0 && k <= 4 && m >= 0 && m <= 3;
        return in && w * k + w * w * m <= 10 ? (int) (w * k + w * w * m) : -1;
    }

    /** How many models refute a formula in world 0, and the first of them, -5 if there is none. */
    private static int[] search(String text, int w, int k, int m) {
        Reference.Node f = (Reference.Node) Reference.parse(text);
        int[] found = {0, -5};
        for (int code = (1 << bits(w, k, m)) - 1; code >= 0; code--) {
            if (!Reference.World.ofCode(w, k, m, code).isTrue(f, 0)) {
                found[0]++;
                found[1] = code;
            }
        }
        return found;
    }

    // ---- 39 and 40

    private static final int[][] SPACES = {{Edge.MIN, -1, 0, 1, 3, 4, 12, Edge.MAX}, {Edge.MIN, 0, 1, 2, 5, 6, 7, 1 << 16, Edge.MAX},
        {Edge.MIN, -1, 0, 1, 2, 4, 5, Edge.MAX}, {Edge.MIN, -1, 0, 1, 2, 3, 4, Edge.MAX}};

    private static long due(int[] i, int which) {
        if (!in(i[0])) {
            return -1;
        }
        return bits(i[1], i[2], i[3]) < 0 ? -2 : search(Fixture.TEXTS[i[0]], i[1], i[2], i[3])[which];
    }

    static void promise39TheFormulaThenTheSpace() {
        Edge.sweep(Fixture.PLAIN, "counterModels", SPACES, (x, i) -> x.counterModels(i[0], i[1], i[2], i[3]), i -> due(i, 0));
        Edge.sweep(Fixture.FRESH, "counterModels", new int[][] {{-1, 0}, {0, 1, 7}, {-1, 0, 5}, {-1, 0, 4}},
                (x, i) -> x.counterModels(i[0], i[1], i[2], i[3]), i -> -1);
        // the last formula is q, which is false in all models with one letter
        Edge.sweep(Fixture.FULL, "counterModels", new int[][] {{11, 12}, {1, 7}, {1}, {0}},
                (x, i) -> x.counterModels(i[0], i[1], i[2], i[3]), i -> i[0] == 12 ? -1 : i[1] == 7 ? -2 : 2);
    }

    static void promise40TheFormulaThenTheSpaceThenTheModel() {
        Edge.sweep(Fixture.PLAIN, "firstCounterModel", SPACES, (x, i) -> x.firstCounterModel(i[0], i[1], i[2], i[3]),
                i -> due(i, 1));
        Edge.sweep(Fixture.FRESH, "firstCounterModel", new int[][] {{-1, 0}, {0, 1, 7}, {-1, 0, 5}, {-1, 0, 4}},
                (x, i) -> x.firstCounterModel(i[0], i[1], i[2], i[3]), i -> -1);
        Edge.sweep(Fixture.FULL, "firstCounterModel", new int[][] {{11, 12}, {1, 7}, {1}, {0}},
                (x, i) -> x.firstCounterModel(i[0], i[1], i[2], i[3]), i -> i[0] == 12 ? -1 : i[1] == 7 ? -2 : 0);
    }

    static void promise39NoModelAndAllModelsOfEverySpace() {
        DynamicLogicProver x = new DynamicLogicProver();
        int zero = Check.parse(x, "0");
        int one = Check.parse(x, "1");
        for (int i = 0; i < 120; i++) {
            int w = 1 + i % 6;
            int k = i / 6 % 5;
            int m = i / 30;
            int bits = bits(w, k, m);
            Check.due("0 in " + w + " " + k + " " + m, x.counterModels(zero, w, k, m), bits < 0 ? -2 : 1 << bits);
            Check.due("1 in " + w + " " + k + " " + m, x.counterModels(one, w, k, m), bits < 0 ? -2 : 0);
        }
    }

    static void promise40TheFirstAndTheLastCode() {
        DynamicLogicProver x = new DynamicLogicProver();
        Check.due("the first code", x.firstCounterModel(Check.parse(x, "0"), 2, 1, 2), 0);
        Check.due("no code", x.firstCounterModel(Check.parse(x, "1"), 2, 1, 2), -5);
        // false only where a and b lead everywhere and p is true everywhere
        int f = Check.parse(x, "!(p&<a>(p&<b>p)&[a]p)");
        int[] due = search("!(p&<a>(p&<b>p)&[a]p)", 1, 1, 2);
        Check.due("how many", due[0], 1);
        Check.due("how many", x.counterModels(f, 1, 1, 2), 1);
        Check.due("the last code of all", x.firstCounterModel(f, 1, 1, 2), 7);
        int g = Check.parse(x, "!(p&q&r&s&<a>1&<b>1&<c>1)");
        Check.due("all seven bits", x.firstCounterModel(g, 1, 4, 3), 127);
        Check.due("one model", x.counterModels(g, 1, 4, 3), 1);
        int h = Check.parse(x, "p-q-r-s-[a]0|[b]0|[c]0");
        Check.due("all seven bits", x.firstCounterModel(h, 1, 4, 3), 127);
        Check.due("one model", x.counterModels(h, 1, 4, 3), 1);
        Check.due("no model without c", x.firstCounterModel(h, 1, 4, 2), -5);
        Check.due("no model without s", x.firstCounterModel(h, 1, 3, 3), -5);
    }

    // ---- 41 and 42

    static void promise41OnlyFormulasThatExist() {
        Edge.sweep(Fixture.PLAIN, "isValid", new int[][] {FORMULAS}, (x, i) -> x.isValid(i[0]), i -> in(i[0]) ? 0 : -1);
        Edge.sweep(Fixture.FRESH, "isValid", new int[][] {FORMULAS}, (x, i) -> x.isValid(i[0]), i -> -1);
        Edge.sweep(Fixture.FULL, "isValid", new int[][] {{11, 12}}, (x, i) -> x.isValid(i[0]), i -> i[0] == 11 ? 0 : -1);
    }

    static void promise42OnlyFormulasThatExist() {
        Edge.sweep(Fixture.PLAIN, "isSatisfiable", new int[][] {FORMULAS}, (x, i) -> x.isSatisfiable(i[0]),
                i -> in(i[0]) ? 1 : -1);
        Edge.sweep(Fixture.FRESH, "isSatisfiable", new int[][] {FORMULAS}, (x, i) -> x.isSatisfiable(i[0]), i -> -1);
        Edge.sweep(Fixture.FULL, "isSatisfiable", new int[][] {{11, 12}}, (x, i) -> x.isSatisfiable(i[0]),
                i -> i[0] == 11 ? 1 : -1);
    }

    /** A text, how many base members it has, and what is due for both questions. */
    private static void decided(String text, int bases, int valid, int possible) {
        DynamicLogicProver x = new DynamicLogicProver();
        int f = Check.parse(x, text);
        Check.due("bases of " + text, x.baseMembers(f), bases);
        Check.due("41: " + text, x.isValid(f), bases > 8 ? -4 : valid);
        Check.due("42: " + text, x.isSatisfiable(f), bases > 8 ? -4 : possible);
    }

    static void promise41NoBaseMembersAndEightAndNine() {
        decided("0", 0, 0, 0);
        decided("1", 0, 1, 1);
        decided("[?1]0", 0, 0, 0);
        decided("[?0]0", 0, 1, 1);
        decided("[(?0)*]1", 0, 1, 1);
        decided(EIGHT, 8, 0, 1);
        decided("(" + EIGHT + ")-p-p", 8, 1, 1);
        decided("(" + EIGHT + ")-[b]q", 9, 0, 0);
        decided("[b]q-" + EIGHT, 9, 0, 0);
    }

    static void promise42EightAndNineBaseMembersOfAnIteration() {
        // every part of a sequence is a base member, and the iteration that comes back is none
        decided("[(a;a;a;a;a;a;a)*]p", 8, 0, 1);
        decided("[(a;a;a;a;a;a;a;a)*]p", 9, 0, 0);
        decided("[(a;a;a;a;a;a;a)*]p&!p", 8, 0, 0);
        decided("[(a;a;a;a;a;a;a)*]p-p", 8, 1, 1);
        decided("[a;a;a;a;a;a;a;a]0", 8, 0, 1);
        decided("[a;a;a;a;a;a;a;a;a]0", 9, 0, 0);
        decided("<a;a;a;a;a;a;a;a>0", 8, 0, 0);
        decided("<a;a;a;a;a;a;a;a>1", 8, 0, 1);
        decided("[a;a;a;a;a;a;a;a]1", 8, 1, 1);
    }

    /** The decision for a, b and c alike, with few base members and with eight. */
    static void promise42EveryProgram() {
        for (char c = 'a'; c <= 'c'; c++) {
            String[] texts = {"[x]p&<x>!p", "[x*]p&<x;x>!p", "<x>p&<x>!p", "p&[x*](p-[x]p)&<x*>!p", "[x](p-q)&[x]p&<x>!q"};
            int[] possible = {0, 0, 1, 0, 0};
            for (int i = 0; i < texts.length; i++) {
                String text = texts[i].replace('x', c);
                DynamicLogicProver x = new DynamicLogicProver();
                int f = Check.parse(x, text);
                Check.due(text, x.isSatisfiable(f), possible[i]);
                Check.due("!(" + text + ")", x.isValid(Check.parse(x, "!(" + text + ")")), 1 - possible[i]);
                int g = Check.parse(x, "(" + text + ")&(p-q-r-s-1)");
                Check.due("with four letters", x.isSatisfiable(g), possible[i]);
            }
            String next = String.valueOf(c == 'c' ? 'a' : (char) (c + 1));
            String apart = "[" + c + "]p&<" + next + ">!p";
            DynamicLogicProver x = new DynamicLogicProver();
            Check.due(apart, x.isSatisfiable(Check.parse(x, apart)), 1);
        }
    }

    static void promise41ALimitLeavesTheState() {
        DynamicLogicProver x = Fixture.FULL.make();
        x.dropFormula();
        x.parseFormula();
        x.dropFormula();
        Check.due("nine", Check.parse(x, "[a;a;a;a;a;a;a;a;a]0"), 11);
        Check.due("41", x.isValid(11), -4);
        Check.due("42", x.isSatisfiable(11), -4);
        Check.due("43", x.entails(11, 11), -4);
        Check.due("43", x.entails(0, 11), -4);
        x.dropFormula();
        Check.parse(x, "q");
        Check.type(x, Fixture.FULL_TEXT);
        Check.dueText("the state", Fixture.trace(x), Fixture.FULL.trace());
    }

    // ---- 43

    static void promise43OnlyFormulasThatExist() {
        Edge.sweep(Fixture.PLAIN, "entails", new int[][] {FORMULAS, FORMULAS}, (x, i) -> x.entails(i[0], i[1]),
                i -> !in(i[0]) || !in(i[1]) ? -1 : i[0] == i[1] || i[0] == 0 && i[1] == 1 ? 1 : 0);
        Edge.sweep(Fixture.FRESH, "entails", new int[][] {FORMULAS, FORMULAS}, (x, i) -> x.entails(i[0], i[1]), i -> -1);
        Edge.sweep(Fixture.FULL, "entails", new int[][] {{4, 11, 12}, {4, 11, 12}}, (x, i) -> x.entails(i[0], i[1]),
                i -> i[0] == 12 || i[1] == 12 ? -1 : 1);
    }

    /** What counts is the closure of the implication: base members of both, each once. */
    static void promise43EightAndNineBaseMembersTogether() {
        DynamicLogicProver x = new DynamicLogicProver();
        int eight = Check.parse(x, EIGHT);
        int same = Check.parse(x, "[a]q|s");
        int other = Check.parse(x, "[b]q");
        int four = Check.parse(x, "p-q-r-s");
        int boxes = Check.parse(x, "[a]0-[b]0-[c]0-[a]1");
        int fifth = Check.parse(x, "[a]0-[b]0-[c]0-[a]1-[b]1");
        int zero = Check.parse(x, "0");
        Check.due("eight and some of them", x.entails(eight, same), 0);
        Check.due("some of them and eight", x.entails(same, eight), 0);
        Check.due("eight and a ninth", x.entails(eight, other), -4);
        Check.due("a ninth and eight", x.entails(other, eight), -4);
        Check.due("eight and none", x.entails(eight, zero), 0);
        Check.due("none and eight", x.entails(zero, eight), 1);
        Check.due("four and four", x.entails(four, boxes), 1);
        Check.due("four and four", x.entails(boxes, four), 0);
        Check.due("four and five", x.entails(four, fifth), -4);
        Check.due("five and four", x.entails(fifth, four), -4);
        Check.due("eight twice", x.entails(eight, eight), 1);
        int nine = Check.parse(x, "[a;a;a;a;a;a;a;a;a]0");
        Check.due("nine and none", x.entails(nine, zero), -4);
        Check.due("the formula comes first", x.entails(nine, 8), -1);
        Check.due("the formula comes first", x.entails(8, nine), -1);
    }

    /** The implication of two formulas of size 80 has 161 parts, which is no reason to refuse it. */
    static void promise43TwoFormulasOfSize80() {
        DynamicLogicProver x = new DynamicLogicProver();
        int f = Check.parse(x, "p-".repeat(37) + "[a*]p-p");
        int g = Check.parse(x, "q-".repeat(37) + "[b*]q-q");
        Check.due("size", x.formulaSize(f) + x.formulaSize(g), 160);
        Check.due("valid", x.isValid(f), 1);
        Check.due("both valid", x.entails(f, g), 1);
        int h = Check.parse(x, "q-".repeat(38) + "[b*]q");
        int never = Check.parse(x, "[" + "?1;".repeat(15) + "?0]0");
        Check.due("not valid", x.entails(f, h), 0);
        Check.due("the other way", x.entails(h, f), 1);
        Check.due("a large program", x.entails(h, never), 1);
    }
}
