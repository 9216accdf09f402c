/** The boundary cases of promises 18 to 20: truth in worlds, and the formula that tells two worlds apart. */
public final class EdgeTruthTest {
    private static final int[] FORMULAS = {Edge.MIN, -1, 0, 1, 2, 3, 4, 5, 12, Edge.MAX};
    private static final int[] WORLDS = {Edge.MIN, -1, 0, 1, 2, 3, 4, 5, 6, 32, Edge.MAX};

    public static void main(String[] args) throws ReflectiveOperationException {
        Edge.runAll(EdgeTruthTest.class);
    }

    private static boolean in(int number) {
        return Edge.isIn(number, 0, 3);
    }

    // ---- 18 and 19

    static void promise18OnlyFormulasAndWorldsThatExist() {
        Edge.sweep(Fixture.PLAIN, "holds", new int[][] {FORMULAS, WORLDS}, (x, i) -> x.holds(i[0], i[1]),
                i -> in(i[0]) && in(i[1]) ? Fixture.EXTENSIONS[i[0]] >> i[1] & 1 : -1);
        Edge.sweep(Fixture.FRESH, "holds", new int[][] {FORMULAS, WORLDS}, (x, i) -> x.holds(i[0], i[1]), i -> -1);
        Edge.sweep(Fixture.FULL, "holds", new int[][] {{11, 12}, WORLDS}, (x, i) -> x.holds(i[0], i[1]),
                i -> i[0] == 12 || !in(i[1]) ? -1 : i[1] == 0 ? 1 : 0);
    }

    static void promise18TheLastOfSixWorlds() {
        DynamicLogicProver x = new DynamicLogicProver();
        x.setWorlds(6);
        x.setLetter(5, 3, true);
        int f = Check.parse(x, "s");
        Check.due("the last world", x.holds(f, 5), 1);
        Check.due("the world before", x.holds(f, 4), 0);
        Check.due("behind the last world", x.holds(f, 6), -1);
        x.setWorlds(5);
        Check.due("the world is gone", x.holds(f, 5), -1);
    }

    static void promise19OnlyFormulasThatExist() {
        Edge.sweep(Fixture.PLAIN, "extension", new int[][] {FORMULAS}, (x, i) -> x.extension(i[0]),
                i -> in(i[0]) ? Fixture.EXTENSIONS[i[0]] : -1);
        Edge.sweep(Fixture.FRESH, "extension", new int[][] {FORMULAS}, (x, i) -> x.extension(i[0]), i -> -1);
        Edge.sweep(Fixture.FULL, "extension", new int[][] {{11, 12}}, (x, i) -> x.extension(i[0]),
                i -> i[0] == 11 ? 1 : -1);
    }

    static void promise19NoWorldAndAllWorlds() {
        for (int n = 1; n <= 6; n++) {
            DynamicLogicProver x = new DynamicLogicProver();
            x.setWorlds(n);
            Check.due("0 in " + n, x.extension(Check.parse(x, "0")), 0);
            Check.due("1 in " + n, x.extension(Check.parse(x, "1")), (1 << n) - 1);
            Check.due("!p in " + n, x.extension(Check.parse(x, "!p")), (1 << n) - 1);
            Check.due("[a]0 without a in " + n, x.extension(Check.parse(x, "[a]0")), (1 << n) - 1);
            Check.due("<a>1 without a in " + n, x.extension(Check.parse(x, "<a>1")), 0);
            Check.due("[a*]0 in " + n, x.extension(Check.parse(x, "[a*]0")), 0);
            Check.due("[?0]0 in " + n, x.extension(Check.parse(x, "[?0]0")), (1 << n) - 1);
            Check.due("[?1]0 in " + n, x.extension(Check.parse(x, "[?1]0")), 0);
        }
    }

    /** The way from the first world to the last one uses every world. */
    static void promise19AChainOfSixWorlds() {
        DynamicLogicProver x = new DynamicLogicProver();
        x.setWorlds(6);
        for (int i = 0; i < 5; i++) {
            x.setTransition(0, i, i + 1, true);
        }
        x.setLetter(5, 0, true);
        Check.due("<a*>p", x.extension(Check.parse(x, "<a*>p")), 63);
        Check.due("<a;a;a;a;a>p", x.extension(Check.parse(x, "<a;a;a;a;a>p")), 1);
        Check.due("<a;a;a;a;a;a>p", x.extension(Check.parse(x, "<a;a;a;a;a;a>p")), 0);
        Check.due("<(a;a)*>p", x.extension(Check.parse(x, "<(a;a)*>p")), 42);
        Check.due("[a*]!p", x.extension(Check.parse(x, "[a*]!p")), 0);
    }

    /** World 0 and world 5 as the beginning, the middle and the end of runs of every kind of program. */
    static void promise19TheFirstAndTheLastWorldInEveryProgram() {
        for (int end = 0; end <= 5; end += 5) {
            DynamicLogicProver x = new DynamicLogicProver();
            x.setWorlds(6);
            x.setTransition(0, 2, end, true);
            x.setTransition(1, end, 3, true);
            x.setLetter(end, 0, true);
            x.setLetter(3, 1, true);
            Check.due("into it", x.extension(Check.parse(x, "<a>p")), 4);
            Check.due("out of it", x.extension(Check.parse(x, "<b>q")), 1 << end);
            Check.due("through it", x.extension(Check.parse(x, "<a;b>q")), 4);
            Check.due("through it in an iteration", x.extension(Check.parse(x, "<(a+b)*>q")), 1 << end | 4 | 8);
            Check.due("a choice in it", x.extension(Check.parse(x, "<c+b>q")), 1 << end);
            Check.due("a test in it", x.extension(Check.parse(x, "<?p>1")), 1 << end);
            Check.due("a box in it", x.extension(Check.parse(x, "[b]!q")), 63 & ~(1 << end));
        }
    }

    static void promise19AFormulaOfSize80() {
        DynamicLogicProver x = new DynamicLogicProver();
        x.setWorlds(2);
        x.setLetter(1, 0, true);
        x.setTransition(0, 1, 0, true);
        int f = Check.parse(x, "p-".repeat(37) + "[a*]p-p");
        Check.due("size", x.formulaSize(f), 80);
        Check.due("p- and p at the end", x.extension(f), 3);
        int g = Check.parse(x, "p-".repeat(38) + "[a*]p");
        Check.due("p- and [a*]p at the end", x.extension(g), 1);
    }

    // ---- 20

    static void promise20TheWorldsComeFirst() {
        Edge.sweep(Fixture.PLAIN, "distinguish", new int[][] {WORLDS, WORLDS}, (x, i) -> x.distinguish(i[0], i[1]),
                i -> !in(i[0]) || !in(i[1]) ? -1 : first(i[0], i[1]));
        Edge.sweep(Fixture.FRESH, "distinguish", new int[][] {WORLDS, WORLDS}, (x, i) -> x.distinguish(i[0], i[1]),
                i -> i[0] == 0 && i[1] == 0 ? -5 : -1);
    }

    /** The stored formulas are p, [a*]p, [(a;b)]q and <a>p in their order. */
    private static int first(int world, int other) {
        for (int f : new int[] {1, 0, 2, 3}) {
            if ((Fixture.EXTENSIONS[f] >> world & 1) != (Fixture.EXTENSIONS[f] >> other & 1)) {
                return f;
            }
        }
        return -5;
    }

    static void promise20NoFormulas() {
        DynamicLogicProver x = new DynamicLogicProver();
        x.setWorlds(2);
        x.setLetter(1, 0, true);
        Check.due("worlds that differ", x.distinguish(0, 1), -5);
        Check.due("a world that does not exist", x.distinguish(0, 2), -1);
        Check.due("a world that does not exist", x.distinguish(2, 0), -1);
    }

    static void promise20TwelveFormulas() {
        DynamicLogicProver x = new DynamicLogicProver();
        x.setWorlds(6);
        x.setLetter(5, 0, true);
        for (int f = 0; f < 11; f++) {
            Check.parse(x, f % 2 == 0 ? "q" : "1");
        }
        Check.due("none of eleven", x.distinguish(0, 5), -5);
        Check.parse(x, "p");
        Check.due("the last of twelve", x.distinguish(0, 5), 11);
        Check.due("the other way round", x.distinguish(5, 0), 11);
        Check.due("a world and itself", x.distinguish(5, 5), -5);
        Check.due("worlds that are alike", x.distinguish(0, 4), -5);
    }

    static void promise20TheSmallestNumberOfTheSameFormula() {
        DynamicLogicProver x = new DynamicLogicProver();
        x.setWorlds(2);
        x.setLetter(1, 0, true);
        Check.parse(x, "!p");
        for (int f = 1; f < 12; f++) {
            Check.parse(x, "p");
        }
        Check.due("the first p", x.distinguish(0, 1), 1);
    }
}
