/** The boundary cases of promises 37 and 38: unfolding steps and bounded iterations. */
public final class EdgeUnfoldTest {
    private static final int[] FORMULAS = {Edge.MIN, -1, 4, 5, 12, Edge.MAX};

    public static void main(String[] args) throws ReflectiveOperationException {
        Edge.runAll(EdgeUnfoldTest.class);
    }

    // ---- 37

    static void promise37RefusesFormulasThatDoNotExist() {
        Edge.sweep(Fixture.PLAIN, "unfold", new int[][] {FORMULAS}, (x, i) -> x.unfold(i[0]), i -> -1);
        Edge.sweep(Fixture.FRESH, "unfold", new int[][] {{-1, 0, 1}}, (x, i) -> x.unfold(i[0]), i -> -1);
    }

    static void promise37NoSuchBox() {
        Edge.keeps(Fixture.PLAIN, "unfold a letter", x -> x.unfold(1), -5);
        Edge.keeps(Fixture.PLAIN, "unfold a box with an atomic program", x -> x.unfold(3), -5);
        DynamicLogicProver x = new DynamicLogicProver();
        for (String text : new String[] {"0", "1", "p-q", "[a]p", "[a][b][c]p", "[a]p-[b]q-[c]r", "<a>p"}) {
            Check.due(text, x.unfold(Check.parse(x, text)), -5);
        }
        Check.due("nothing stored", x.count(2), 7);
    }

    static void promise37TheFormulaThenTheBoxThenTheRoom() {
        Edge.sweep(Fixture.FULL, "unfold", new int[][] {{Edge.MIN, -1, 0, 1, 2, 3, 11, 12, Edge.MAX}}, (x, i) -> x.unfold(i[0]),
                i -> !Edge.isIn(i[0], 0, 11) ? -1 : i[0] == 0 || i[0] == 2 ? -4 : -5);
    }

    static void promise37TheTwelfthFormula() {
        DynamicLogicProver x = new DynamicLogicProver();
        Check.parse(x, "[a+b]p");
        for (int f = 1; f < 12; f++) {
            Check.due("number", x.unfold(0), f);
        }
        Check.due("the thirteenth", x.unfold(0), -4);
        Check.dueText("the twelfth", Check.text(x, 11), "(([a]p-([b]p-0))-0)");
    }

    /** A text, the size of the formula, and the size after a step. */
    private static void step(String text, int size, int after) {
        DynamicLogicProver x = new DynamicLogicProver();
        int f = Check.parse(x, text);
        Check.due("size of " + text, x.formulaSize(f), size);
        Check.due("unfold " + text, x.unfold(f), after <= 80 ? 1 : -5);
        Check.due("size after " + text, x.formulaSize(1), after <= 80 ? after : -1);
        Check.due("formulas after " + text, x.count(2), after <= 80 ? 2 : 1);
        while (x.count(2) < 12) {
            Check.parse(x, "q");
        }
        Check.due("without room " + text, x.unfold(f), after <= 80 ? -4 : -5);
    }

    static void promise37ChoicesThatBecome80And81() {
        // [P+Q]G becomes (([P]G-([Q]G-0))-0), of size 7 and those of P and Q and twice that of G
        step("[a+b*](" + "p-".repeat(17) + "p)", 40, 80);
        step("[a+b](" + "p-".repeat(16) + "[a*]p)", 40, 81);
        step("[a+b](" + "p-".repeat(17) + "p)", 39, 79);
        step("[a+b](" + "p-".repeat(30) + "p)", 65, 131);
    }

    static void promise37IterationsThatBecome80And81() {
        // [P*]G becomes ((G-([P][P*]G-0))-0), of size 8 and twice those of P and G
        step("[(" + "a;".repeat(16) + "a)*]p", 36, 76);
        step("[(" + "a;".repeat(16) + "a)*]" + "[b]p", 38, 80);
        step("[(" + "a;".repeat(17) + "a)*]" + "[b]p", 40, 84);
        step("[b*]p-[(" + "a;".repeat(15) + "a)*]p", 39, 39 + 8);
        step("[(" + "a;".repeat(15) + "a)*][b]p-[b*]p", 41, 76 + 5);
        step("[(" + "a;".repeat(14) + "a)*][b*]p-[b]p", 39, 74 + 4);
    }

    static void promise37StepsOfFormulasOfSize80() {
        // a sequence keeps the size, and a test makes it smaller by one
        step("[" + "a;".repeat(38) + "a*]p", 80, 80);
        step("[?p](" + "p-".repeat(38) + "p)", 80, 79);
        step("p-".repeat(37) + "[a*]p-p", 80, 88);
    }

    /** An unfolded iteration has the star height that it had. */
    static void promise37StarHeightThree() {
        DynamicLogicProver x = new DynamicLogicProver();
        int f = Check.parse(x, "[a***]p");
        Check.due("unfold", x.unfold(f), 1);
        Check.due("height", x.starHeight(1), 3);
        Check.due("unfold", x.unfold(1), 2);
        Check.due("height", x.starHeight(2), 3);
        Check.dueText("the first box from the left", Check.text(x, 1), "((p-([a**][a***]p-0))-0)");
    }

    static void promise37LeavesAllButTheNewFormula() {
        DynamicLogicProver x = Fixture.PLAIN.make();
        Check.due("unfold", x.unfold(2), 4);
        Check.dueText("the new one", Check.text(x, 4), "[a][b]q");
        x.dropFormula();
        Check.dueText("without it", Fixture.trace(x), Fixture.PLAIN.trace());
    }

    // ---- 38

    private static final int[] BOUNDS = {Edge.MIN, -1, 4, 5, Edge.MAX};

    static void promise38TheFormulaThenTheBound() {
        int[] bounds = {Edge.MIN, -1, 0, 3, 4, Edge.MAX};
        Edge.sweep(Fixture.PLAIN, "unroll", new int[][] {FORMULAS, bounds}, (x, i) -> x.unroll(i[0], i[1]), i -> -1);
        Edge.sweep(Fixture.PLAIN, "unroll", new int[][] {{0, 1, 2, 3}, BOUNDS}, (x, i) -> x.unroll(i[0], i[1]), i -> -2);
        Edge.sweep(Fixture.FRESH, "unroll", new int[][] {{-1, 0, 1}, bounds}, (x, i) -> x.unroll(i[0], i[1]), i -> -1);
    }

    static void promise38TheBoundThenTheSizeThenTheRoom() {
        Edge.sweep(Fixture.FULL, "unroll", new int[][] {{Edge.MIN, -1, 0, 1, 11, 12, Edge.MAX}, {Edge.MIN, -1, 0, 1, 2, 3, 4, Edge.MAX}},
                (x, i) -> x.unroll(i[0], i[1]),
                i -> !Edge.isIn(i[0], 0, 11) ? -1 : !Edge.isIn(i[1], 0, 3) ? -2 : -4);
    }

    static void promise38TheSmallestAndTheLargestBound() {
        String[] due = {"[?(0-0)]p", "[(?(0-0)+(a;?(0-0)))]p", "[(?(0-0)+(a;(?(0-0)+(a;?(0-0)))))]p",
            "[(?(0-0)+(a;(?(0-0)+(a;(?(0-0)+(a;?(0-0)))))))]p"};
        for (int n = 0; n <= 3; n++) {
            DynamicLogicProver x = Fixture.PLAIN.make();
            Check.due("unroll " + n, x.unroll(0, n), 4);
            Check.dueText("unroll " + n, Check.text(x, 4), due[n]);
            x.dropFormula();
            Check.due("a letter is as it was", x.unroll(1, n), 4);
            Check.due("a letter is as it was", x.compareFormulas(1, 4), 1);
            x.dropFormula();
            Check.dueText("without it", Fixture.trace(x), Fixture.PLAIN.trace());
        }
    }

    /** A text, a bound, and the size that the formula gets. */
    private static void rolled(String text, int n, int after) {
        DynamicLogicProver x = new DynamicLogicProver();
        int f = Check.parse(x, text);
        Check.due("parse " + text, f, 0);
        Check.due("unroll " + text + " " + n, x.unroll(f, n), after <= 80 ? 1 : -5);
        Check.due("size of " + text + " " + n, x.formulaSize(1), after <= 80 ? after : -1);
        Check.due("formulas after " + text, x.count(2), after <= 80 ? 2 : 1);
        while (x.count(2) < 12) {
            Check.parse(x, "q");
        }
        Check.due("without room " + text, x.unroll(f, n), after <= 80 ? -4 : -5);
        Check.due("the bound comes before the size and the room", x.unroll(f, 4), -2);
        Check.due("the bound comes before the size and the room", x.unroll(f, -1), -2);
        Check.due("the formula comes first", x.unroll(12, n), -1);
    }

    static void promise38SizesOf80And81() {
        // P* becomes of size 4, or 4 and n times 6 and the size of P
        rolled("[(" + "a;".repeat(8) + "?p)*](p-p)", 3, 1 + 22 + 3 * 18 + 3);
        rolled("[(" + "a;".repeat(8) + "?p)*][?p]p", 3, 1 + 22 + 3 * 18 + 4);
        rolled("[(" + "a;".repeat(13) + "a)*](" + "p-".repeat(4) + "p)", 2, 1 + 16 + 2 * 27 + 9);
        rolled("[(" + "a;".repeat(13) + "a)*](" + "p-".repeat(3) + "[?p]p)", 2, 1 + 16 + 2 * 27 + 10);
        rolled("[(" + "a;".repeat(26) + "a)*](" + "p-".repeat(7) + "p)", 1, 1 + 10 + 53 + 15);
        rolled("[(" + "a;".repeat(26) + "a)*](" + "p-".repeat(7) + "[?p]q)", 1, 1 + 10 + 53 + 18);
        rolled("[a*]p-".repeat(11) + "[b*]p", 0, 12 * 6 + 11);
        rolled("[a*]p-".repeat(10) + "[b*][a]p", 0, 11 * 6 + 2 + 10);
        rolled("[a*]p-".repeat(10) + "[b*](p-[?p]p)", 0, 10 * 6 + 5 + 6 + 10);
        rolled("[a*]p-".repeat(10) + "[b*][?p]p", 0, 10 * 6 + 5 + 4 + 10);
    }

    /** A formula of size 80 without iterations stays as it is; three iterations in one another grow far. */
    static void promise38WithoutIterationsAndWithThree() {
        rolled("p-".repeat(37) + "[?p]p-p", 3, 80);
        rolled("p-".repeat(37) + "[?p]p-p", 0, 80);
        rolled("[a***]p", 0, 6);
        rolled("[a***]p", 1, 1 + 1 + 31);
        rolled("[a***]p", 2, 1 + 1 + 16 + 2 * (16 + 2 * (16 + 2)));
        rolled("[a***]p", 3, 1 + 1 + 22 + 3 * (22 + 3 * (22 + 3)));
        rolled("[(?[(?[a*]p)*]p)*]p", 1, 1 + 1 + 10 + 1 + 1 + 1 + 10 + 1 + 1 + 1 + 11);
    }

    static void promise38TheTwelfthFormula() {
        DynamicLogicProver x = new DynamicLogicProver();
        Check.parse(x, "[a*]p");
        for (int f = 1; f < 12; f++) {
            Check.due("number", x.unroll(0, f % 4), f);
        }
        for (int n = 0; n <= 3; n++) {
            Check.due("the thirteenth", x.unroll(0, n), -4);
        }
        x.dropFormula();
        Check.due("room again", x.unroll(10, 3), 11);
    }
}
