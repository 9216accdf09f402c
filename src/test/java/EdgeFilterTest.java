/** The boundary cases of promises 32 to 36: filtration. */
public final class EdgeFilterTest {
    private static final int[] FORMULAS = {Edge.MIN, -1, 0, 1, 2, 3, 4, 12, Edge.MAX};
    private static final int[] WORLDS = {Edge.MIN, -1, 0, 1, 2, 3, 4, 6, Edge.MAX};
    /** By formula 1, which is p, worlds 0 and 2 are equivalent, and so are 1 and 3. */
    private static final int[] CLASSES = {4, 2, 4, 4};
    private static final int[][] MERGED = {{2, 3}, {2, 0}, {0, 0}};

    public static void main(String[] args) throws ReflectiveOperationException {
        Edge.runAll(EdgeFilterTest.class);
    }

    private static boolean in(int number) {
        return Edge.isIn(number, 0, 3);
    }

    private static boolean isClass(int f, int index) {
        return in(f) && Edge.isIn(index, 0, CLASSES[f] - 1);
    }

    static void promise32OnlyFormulasThatExist() {
        Edge.sweep(Fixture.PLAIN, "filterClasses", new int[][] {FORMULAS}, (x, i) -> x.filterClasses(i[0]),
                i -> in(i[0]) ? CLASSES[i[0]] : -1);
        Edge.sweep(Fixture.FRESH, "filterClasses", new int[][] {FORMULAS}, (x, i) -> x.filterClasses(i[0]), i -> -1);
        Edge.sweep(Fixture.FULL, "filterClasses", new int[][] {{11, 12}}, (x, i) -> x.filterClasses(i[0]),
                i -> i[0] == 11 ? 2 : -1);
    }

    static void promise32OneClassAndSixClasses() {
        DynamicLogicProver x = new DynamicLogicProver();
        int zero = Check.parse(x, "0");
        int chain = Check.parse(x, "[a;a;a;a;a]0");
        Check.due("one world", x.filterClasses(chain), 1);
        x.setWorlds(6);
        for (int i = 0; i < 5; i++) {
            x.setTransition(0, i, i + 1, true);
        }
        Check.due("0 is the same everywhere", x.filterClasses(zero), 1);
        Check.due("all worlds differ", x.filterClasses(chain), 6);
        Check.due("the last class", x.filterClass(chain, 5), 5);
        Check.due("apply", x.applyFilter(chain), 6);
        Check.due("nothing but the chain", x.count(1), 5);
        Check.due("apply", x.applyFilter(zero), 1);
        Check.due("a loop", x.successors(0, 0), 1);
        Check.due("no other world", x.letters(1), -1);
    }

    static void promise33OnlyFormulasAndWorldsThatExist() {
        Edge.sweep(Fixture.PLAIN, "filterClass", new int[][] {FORMULAS, WORLDS}, (x, i) -> x.filterClass(i[0], i[1]),
                i -> !in(i[0]) || !in(i[1]) ? -1 : i[0] == 1 ? i[1] % 2 : i[1]);
        Edge.sweep(Fixture.FRESH, "filterClass", new int[][] {FORMULAS, WORLDS}, (x, i) -> x.filterClass(i[0], i[1]), i -> -1);
        // the last formula is q, which is true in world 0 alone
        Edge.sweep(Fixture.FULL, "filterClass", new int[][] {{11, 12}, WORLDS}, (x, i) -> x.filterClass(i[0], i[1]),
                i -> i[0] == 12 || !in(i[1]) ? -1 : i[1] == 0 ? 0 : 1);
    }

    static void promise34OnlyClassesOfTheFormula() {
        int[] programs = {Edge.MIN, -1, 0, 1, 2, 3, Edge.MAX};
        Edge.sweep(Fixture.PLAIN, "filterSuccessors", new int[][] {FORMULAS, programs, WORLDS},
                (x, i) -> x.filterSuccessors(i[0], i[1], i[2]),
                i -> !isClass(i[0], i[2]) || !Edge.isIn(i[1], 0, 2) ? -1 : (i[0] == 1 ? MERGED : Fixture.MOVES)[i[1]][i[2]]);
        Edge.sweep(Fixture.FRESH, "filterSuccessors", new int[][] {FORMULAS, programs, {0, 1}},
                (x, i) -> x.filterSuccessors(i[0], i[1], i[2]), i -> -1);
        Edge.sweep(Fixture.FULL, "filterSuccessors", new int[][] {{11, 12}, {0}, {0, 1, 2}},
                (x, i) -> x.filterSuccessors(i[0], i[1], i[2]), i -> i[0] == 12 || i[2] == 2 ? -1 : 2);
    }

    static void promise34TheFirstAndTheLastWorldOfAClass() {
        for (int program = 0; program < 3; program++) {
            for (int end = 0; end <= 5; end += 5) {
                DynamicLogicProver x = new DynamicLogicProver();
                x.setWorlds(6);
                x.setLetter(2, 0, true);
                int f = Check.parse(x, "p");
                x.setTransition(program, 2, end, true);
                Check.due("into a world of class 0", x.filterSuccessors(f, program, 1), 1);
                x.setTransition(program, end, 2, true);
                Check.due("out of a world of class 0", x.filterSuccessors(f, program, 0), 2);
                x.setTransition(program, end, end, true);
                Check.due("within class 0", x.filterSuccessors(f, program, 0), 3);
                Check.due("the next program", x.filterSuccessors(f, (program + 1) % 3, 0), 0);
            }
        }
    }

    static void promise35OnlyClassesOfTheFirstFormula() {
        // where formulas 0 to 3 are true in the filtered models: without q, with p and two worlds, without p, without q
        int[][] due = {{8, 10, 13, 9}, {0, 2, 1, 3}, {0, 0, 13, 0}, {8, 10, 13, 9}};
        Edge.sweep(Fixture.PLAIN, "filterHolds", new int[][] {FORMULAS, FORMULAS, WORLDS},
                (x, i) -> x.filterHolds(i[0], i[1], i[2]),
                i -> !isClass(i[0], i[2]) || !in(i[1]) ? -1 : due[i[0]][i[1]] >> i[2] & 1);
        Edge.sweep(Fixture.FRESH, "filterHolds", new int[][] {{-1, 0}, {-1, 0}, {-1, 0, 1}},
                (x, i) -> x.filterHolds(i[0], i[1], i[2]), i -> -1);
        Edge.sweep(Fixture.FULL, "filterHolds", new int[][] {{11, 12}, {11, 12}, {0, 1, 2}},
                (x, i) -> x.filterHolds(i[0], i[1], i[2]),
                i -> i[0] == 12 || i[1] == 12 || i[2] == 2 ? -1 : 1 - i[2]);
    }

    static void promise35ALetterOutsideTheClosureIsFalse() {
        DynamicLogicProver x = new DynamicLogicProver();
        for (int letter = 0; letter < 4; letter++) {
            x.setLetter(0, letter, true);
        }
        for (int f = 0; f < 4; f++) {
            Check.parse(x, "pqrs".substring(f, f + 1));
        }
        for (int f = 0; f < 4; f++) {
            for (int g = 0; g < 4; g++) {
                Check.due("letter " + g + " for letter " + f, x.filterHolds(f, g, 0), f == g ? 1 : 0);
            }
        }
    }

    static void promise36RefusesFormulasThatDoNotExist() {
        for (int f : Edge.outside(0, 3)) {
            Edge.keeps(Fixture.PLAIN, "applyFilter " + f, x -> x.applyFilter(f), -1);
        }
        Edge.keeps(Fixture.FRESH, "applyFilter", x -> x.applyFilter(0), -1);
        Edge.keeps(Fixture.FULL, "applyFilter", x -> x.applyFilter(12), -1);
    }

    static void promise36ReplacesTheModelAndNothingElse() {
        DynamicLogicProver x = Fixture.PLAIN.make();
        Check.due("apply", x.applyFilter(1), 2);
        Check.due("worlds", x.count(0), 2);
        Check.due("transitions", x.count(1), 4);
        Check.due("letters", x.letters(0), 0);
        Check.due("letters", x.letters(1), 1);
        for (int program = 0; program < 3; program++) {
            for (int world = 0; world < 2; world++) {
                Check.due("successors", x.successors(program, world), MERGED[program][world]);
            }
        }
        x.setWorlds(4);
        DynamicLogicProver y = Fixture.PLAIN.make();
        y.setWorlds(4);
        Check.dueText("all but the model", Fixture.trace(x), Fixture.trace(y));
    }

    static void promise36KeepsTheModelIfAllWorldsDiffer() {
        DynamicLogicProver x = Fixture.PLAIN.make();
        x.setLetter(0, 1, false);
        x.setLetter(3, 3, false);
        Check.due("apply", x.applyFilter(0), 4);
        x.setLetter(0, 1, true);
        x.setLetter(3, 3, true);
        Check.dueText("with the letters that are not in the closure", Fixture.trace(x), Fixture.PLAIN.trace());
        DynamicLogicProver y = Fixture.FULL.make();
        Check.due("the last formula of twelve", y.applyFilter(11), 2);
    }
}
