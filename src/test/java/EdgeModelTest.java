import java.util.Arrays;

/** The boundary cases of promises 1 to 9: a new object, the model, model spaces and bisimulation. */
public final class EdgeModelTest {
    public static void main(String[] args) throws ReflectiveOperationException {
        Edge.runAll(EdgeModelTest.class);
    }

    // ---- 1

    static void promise01OneWorldAndNoFormulas() {
        DynamicLogicProver x = new DynamicLogicProver();
        Check.due("worlds", x.count(0), 1);
        Check.due("transitions", x.count(1), 0);
        Check.due("formulas", x.count(2), 0);
        Check.due("characters", x.count(3), 0);
        Check.due("letters", x.letters(0), 0);
        Check.due("no second world", x.letters(1), -1);
        for (int program = 0; program < 3; program++) {
            Check.due("successors", x.successors(program, 0), 0);
        }
    }

    static void promise01AllBuffersAreNullAndThereIsNoSnapshot() {
        DynamicLogicProver x = new DynamicLogicProver();
        for (int buffer = 0; buffer < 6; buffer++) {
            Check.due("null", x.store(buffer, 0, 1), -11);
            Check.due("null", x.load(buffer, 0), Edge.NO_VALUE);
        }
        Check.due("no snapshot", x.restore(), -3);
    }

    static void promise01ObjectsAreApart() {
        DynamicLogicProver x = new DynamicLogicProver();
        DynamicLogicProver other = Fixture.FULL.make();
        Check.dueText("what another object has", Fixture.trace(x), Fixture.FRESH.trace());
        new DynamicLogicProver().setWorlds(6);
        Check.dueText("what a new object does", Fixture.trace(other), Fixture.FULL.trace());
    }

    // ---- 2

    static void promise02TakesOneToSixWorlds() {
        DynamicLogicProver x = new DynamicLogicProver();
        int previous = 1;
        for (int n : new int[] {1, 2, 3, 4, 5, 6, 6, 1, 6}) {
            Check.due("setWorlds " + n, x.setWorlds(n), previous);
            Check.due("worlds", x.count(0), n);
            Check.due("the last world", x.letters(n - 1), 0);
            Check.due("no world behind it", x.letters(n), -1);
            previous = n;
        }
    }

    static void promise02RefusesAnyOtherNumber() {
        for (int n : new int[] {Edge.MIN, -6, -1, 0, 7, 8, 32, 257, Edge.MAX}) {
            Edge.keeps(Fixture.PLAIN, "setWorlds " + n, x -> x.setWorlds(n), -2);
            Edge.keeps(Fixture.FRESH, "setWorlds " + n, x -> x.setWorlds(n), -2);
        }
    }

    static void promise02EmptiesAModelThatIsFull() {
        for (int n : new int[] {1, 6}) {
            DynamicLogicProver x = new DynamicLogicProver();
            fill(x, 6);
            Check.due("setWorlds", x.setWorlds(n), 6);
            Check.due("transitions", x.count(1), 0);
            x.setWorlds(6);
            for (int world = 0; world < 6; world++) {
                Check.due("letters", x.letters(world), 0);
                for (int program = 0; program < 3; program++) {
                    Check.due("successors", x.successors(program, world), 0);
                }
            }
        }
    }

    private static void fill(DynamicLogicProver x, int worlds) {
        x.setWorlds(worlds);
        for (int world = 0; world < worlds; world++) {
            for (int letter = 0; letter < 4; letter++) {
                x.setLetter(world, letter, true);
            }
            for (int to = 0; to < worlds; to++) {
                for (int program = 0; program < 3; program++) {
                    x.setTransition(program, world, to, true);
                }
            }
        }
    }

    static void promise02LeavesAllButTheModel() {
        DynamicLogicProver x = Fixture.PLAIN.make();
        Check.due("setWorlds", x.setWorlds(4), 4);
        x.setLetter(0, 1, true);
        x.setLetter(1, 0, true);
        x.setLetter(3, 0, true);
        x.setLetter(3, 3, true);
        x.setTransition(0, 0, 1, true);
        x.setTransition(0, 1, 2, true);
        x.setTransition(0, 3, 3, true);
        x.setTransition(1, 2, 3, true);
        Check.dueText("the model once more", Fixture.trace(x), Fixture.PLAIN.trace());
    }

    // ---- 3

    static void promise03TakesEveryWorldAndLetter() {
        DynamicLogicProver x = new DynamicLogicProver();
        x.setWorlds(6);
        for (int world = 0; world < 6; world++) {
            for (int letter = 0; letter < 4; letter++) {
                Check.due("false before", x.setLetter(world, letter, true), 0);
                Check.due("true before", x.setLetter(world, letter, true), 1);
                Check.due("letters", x.letters(world), (2 << letter) - 1);
            }
        }
        Check.due("the last letter of the last world", x.setLetter(5, 3, false), 1);
        Check.due("the last letter of the last world", x.setLetter(5, 3, false), 0);
        Check.due("letters", x.letters(5), 7);
        Check.due("another world", x.letters(4), 15);
    }

    static void promise03RefusesOtherWorldsAndLetters() {
        for (boolean value : new boolean[] {false, true}) {
            for (int[] choices : new int[][] {Edge.outside(0, 3), {32, 64, -32}}) {
                Edge.sweep(Fixture.PLAIN, "setLetter", new int[][] {choices, {0, 3, -1, 4, Edge.MIN, Edge.MAX}},
                        (x, i) -> x.setLetter(i[0], i[1], value), i -> -1);
                Edge.sweep(Fixture.PLAIN, "setLetter", new int[][] {{0, 3, -1, 4, Edge.MIN, Edge.MAX}, choices},
                        (x, i) -> x.setLetter(i[0], i[1], value), i -> -1);
            }
            Edge.keeps(Fixture.FRESH, "setLetter", x -> x.setLetter(1, 0, value), -1);
        }
    }

    static void promise03TheSameValueChangesNothing() {
        Edge.sweep(Fixture.PLAIN, "setLetter", new int[][] {{0, 1, 2, 3}, {0, 1, 2, 3}},
                (x, i) -> x.setLetter(i[0], i[1], (Fixture.LETTERS[i[0]] >> i[1] & 1) == 1),
                i -> Fixture.LETTERS[i[0]] >> i[1] & 1);
    }

    // ---- 4

    static void promise04TakesEveryProgramAndWorld() {
        DynamicLogicProver x = new DynamicLogicProver();
        x.setWorlds(6);
        int total = 0;
        for (int program = 0; program < 3; program++) {
            for (int from = 0; from < 6; from++) {
                for (int to = 0; to < 6; to++) {
                    Check.due("new", x.setTransition(program, from, to, true), 0);
                }
                total += 6;
                Check.due("all", x.successors(program, from), 63);
                Check.due("transitions", x.count(1), total);
            }
        }
        Check.due("there", x.setTransition(2, 5, 5, true), 1);
        Check.due("delete the last one", x.setTransition(2, 5, 5, false), 1);
        Check.due("deleted", x.setTransition(2, 5, 5, false), 0);
        Check.due("the rest", x.successors(2, 5), 31);
        Check.due("transitions", x.count(1), 107);
    }

    static void promise04RefusesOtherProgramsAndWorlds() {
        int[] programs = {0, 2, -1, 3, Edge.MIN, Edge.MAX};
        int[] worlds = {0, 3, -1, 4, Edge.MIN, Edge.MAX};
        for (boolean present : new boolean[] {false, true}) {
            Edge.sweep(Fixture.PLAIN, "setTransition", new int[][] {Edge.outside(0, 2), worlds, worlds},
                    (x, i) -> x.setTransition(i[0], i[1], i[2], present), i -> -1);
            Edge.sweep(Fixture.PLAIN, "setTransition", new int[][] {programs, Edge.outside(0, 3), worlds},
                    (x, i) -> x.setTransition(i[0], i[1], i[2], present), i -> -1);
            Edge.sweep(Fixture.PLAIN, "setTransition", new int[][] {programs, worlds, Edge.outside(0, 3)},
                    (x, i) -> x.setTransition(i[0], i[1], i[2], present), i -> -1);
            Edge.keeps(Fixture.FRESH, "setTransition", x -> x.setTransition(0, 0, 1, present), -1);
            Edge.keeps(Fixture.FRESH, "setTransition", x -> x.setTransition(0, 1, 0, present), -1);
        }
    }

    static void promise04TheSameValueChangesNothing() {
        Edge.sweep(Fixture.PLAIN, "setTransition", new int[][] {{0, 1, 2}, {0, 1, 2, 3}, {0, 1, 2, 3}},
                (x, i) -> x.setTransition(i[0], i[1], i[2], (Fixture.MOVES[i[0]][i[1]] >> i[2] & 1) == 1),
                i -> Fixture.MOVES[i[0]][i[1]] >> i[2] & 1);
    }

    // ---- 5 and 6

    static void promise05TheFirstAndTheLastWorld() {
        Edge.sweep(Fixture.PLAIN, "letters", new int[][] {{Edge.MIN, -1, 0, 1, 2, 3, 4, 5, 6, Edge.MAX}},
                (x, i) -> x.letters(i[0]), i -> Edge.isIn(i[0], 0, 3) ? Fixture.LETTERS[i[0]] : -1);
        Edge.sweep(Fixture.FRESH, "letters", new int[][] {Edge.around(0, 0)},
                (x, i) -> x.letters(i[0]), i -> i[0] == 0 ? 0 : -1);
    }

    static void promise05AllLettersInSixWorlds() {
        DynamicLogicProver x = new DynamicLogicProver();
        fill(x, 6);
        Check.due("the last world", x.letters(5), 15);
        Check.due("behind it", x.letters(6), -1);
    }

    static void promise06TheFirstAndTheLastProgramAndWorld() {
        int[] worlds = {Edge.MIN, -1, 0, 1, 2, 3, 4, 5, 6, Edge.MAX};
        int[] programs = {Edge.MIN, -1, 0, 1, 2, 3, Edge.MAX};
        Edge.sweep(Fixture.PLAIN, "successors", new int[][] {programs, worlds},
                (x, i) -> x.successors(i[0], i[1]),
                i -> Edge.isIn(i[0], 0, 2) && Edge.isIn(i[1], 0, 3) ? Fixture.MOVES[i[0]][i[1]] : -1);
        Edge.sweep(Fixture.FRESH, "successors", new int[][] {programs, Edge.around(0, 0)},
                (x, i) -> x.successors(i[0], i[1]), i -> Edge.isIn(i[0], 0, 2) && i[1] == 0 ? 0 : -1);
    }

    static void promise06AllTransitionsInSixWorlds() {
        DynamicLogicProver x = new DynamicLogicProver();
        fill(x, 6);
        Check.due("the last program and world", x.successors(2, 5), 63);
        Check.due("behind them", x.successors(2, 6), -1);
        Check.due("behind them", x.successors(3, 5), -1);
    }

    // ---- 7

    private static final int[] NUMBERS = {Edge.MIN, -1, 0, 1, 2, 3, 4, 5, 6, 7, 8, 1 << 15, 1 << 16, 1 << 30, Edge.MAX};

    /** The exponent of the size of a space, or -1 if there is no such space; in longs, which hold it all. */
    private static int bits(long w, long k, long m) {
        boolean in = w >= 1 && w <= 6 && k >= 0 && k <= 4 && m >= 0 && m <= 3;
        return in && w * k + w * w * m <= 10 ? (int) (w * k + w * w * m) : -1;
    }

    static void promise07RefusesWhatIsNoSpace() {
        for (int w : NUMBERS) {
            for (int k : NUMBERS) {
                int[] programs = Arrays.stream(NUMBERS).filter(m -> bits(w, k, m) < 0).toArray();
                Edge.sweep(Fixture.PLAIN, "loadModel", new int[][] {{w}, {k}, programs, {0, -1, Edge.MAX}},
                        (x, i) -> x.loadModel(i[0], i[1], i[2], i[3]), i -> -2);
            }
        }
    }

    static void promise07SpacesOfTenBitsAndTheNextAbove() {
        int[][] ten = {{2, 1, 2}, {2, 3, 1}, {5, 2, 0}};
        for (int[] space : ten) {
            DynamicLogicProver x = new DynamicLogicProver();
            Check.due("ten bits " + Arrays.toString(space), x.loadModel(space[0], space[1], space[2], 1023), space[0]);
        }
        // no space has eleven bits; twelve are the next
        int[][] above = {{3, 1, 1}, {4, 3, 0}, {6, 2, 0}, {2, 0, 3}, {2, 2, 2}, {2, 4, 1}, {5, 3, 0}, {4, 0, 1}};
        for (int[] space : above) {
            Edge.keeps(Fixture.PLAIN, "above ten bits " + Arrays.toString(space),
                    x -> x.loadModel(space[0], space[1], space[2], 0), -2);
        }
    }

    static void promise07TheFirstAndTheLastCodeOfEverySpace() {
        for (int w = 1; w <= 6; w++) {
            for (int k = 0; k <= 4; k++) {
                for (int m = 0; m <= 3; m++) {
                    if (bits(w, k, m) >= 0) {
                        codes(w, k, m);
                    }
                }
            }
        }
    }

    private static void codes(int w, int k, int m) {
        int size = 1 << bits(w, k, m);
        Edge.sweep(Fixture.PLAIN, "loadModel", new int[][] {{w}, {k}, {m}, {Edge.MIN, -1, size, size + 1, 1 << 30, Edge.MAX}},
                (x, i) -> x.loadModel(i[0], i[1], i[2], i[3]), i -> -2);
        loaded(w, k, m, 0);
        loaded(w, k, m, size - 1);
        for (int bit = 1; bit < size; bit *= 2) {
            loaded(w, k, m, bit);
        }
    }

    private static void loaded(int w, int k, int m, int code) {
        DynamicLogicProver x = Fixture.PLAIN.make();
        String name = "space " + w + " " + k + " " + m + " code " + code;
        Check.due(name, x.loadModel(w, k, m, code), w);
        Check.due(name + " worlds", x.count(0), w);
        for (int i = 0; i < w; i++) {
            Check.due(name + " letters of " + i, x.letters(i), code >> i * k & (1 << k) - 1);
            for (int j = 0; j < 3; j++) {
                int due = j < m ? code >> w * k + (j * w + i) * w & (1 << w) - 1 : 0;
                Check.due(name + " program " + j + " from " + i, x.successors(j, i), due);
            }
        }
    }

    static void promise07NothingIsLeftOfALargerModel() {
        DynamicLogicProver x = new DynamicLogicProver();
        fill(x, 6);
        Check.due("the empty space", x.loadModel(6, 0, 0, 0), 6);
        Check.due("transitions", x.count(1), 0);
        for (int world = 0; world < 6; world++) {
            Check.due("letters", x.letters(world), 0);
        }
        fill(x, 6);
        Check.due("one world", x.loadModel(1, 0, 0, 0), 1);
        Check.due("transitions", x.count(1), 0);
        Check.due("no other world", x.letters(1), -1);
    }

    // ---- 8 and 9

    static void promise08OneWorldAndSixWorlds() {
        Edge.keeps(Fixture.FRESH, "bisimulationClasses", x -> x.bisimulationClasses(), 1);
        Edge.keeps(Fixture.PLAIN, "bisimulationClasses", x -> x.bisimulationClasses(), 4);
        DynamicLogicProver x = new DynamicLogicProver();
        x.setWorlds(6);
        Check.due("six worlds that are alike", x.bisimulationClasses(), 1);
        for (int program = 0; program < 3; program++) {
            x.setWorlds(6);
            for (int i = 0; i < 5; i++) {
                x.setTransition(program, i + 1, i, true);
            }
            // the worlds differ only in how far the end is, so every round tells one more
            Check.due("six worlds that differ", x.bisimulationClasses(), 6);
            x.setTransition(program, 0, 5, true);
            Check.due("a ring", x.bisimulationClasses(), 1);
        }
    }

    static void promise09TheFirstAndTheLastWorld() {
        Edge.sweep(Fixture.PLAIN, "bisimulationClass", new int[][] {{Edge.MIN, -1, 0, 1, 2, 3, 4, 5, 6, Edge.MAX}},
                (x, i) -> x.bisimulationClass(i[0]), i -> Edge.isIn(i[0], 0, 3) ? i[0] : -1);
        Edge.sweep(Fixture.FRESH, "bisimulationClass", new int[][] {Edge.around(0, 0)},
                (x, i) -> x.bisimulationClass(i[0]), i -> i[0] == 0 ? 0 : -1);
    }

    static void promise09ClassesAreNumberedByTheirSmallestWorlds() {
        DynamicLogicProver x = new DynamicLogicProver();
        x.setWorlds(6);
        // the letters 3, 0, 3, 2, 0, 1 make classes in the order in which they come first
        int[] letters = {3, 0, 3, 2, 0, 1};
        int[] due = {0, 1, 0, 2, 1, 3};
        for (int world = 0; world < 6; world++) {
            x.setLetter(world, 0, (letters[world] & 1) == 1);
            x.setLetter(world, 3, (letters[world] & 2) == 2);
        }
        Check.due("classes", x.bisimulationClasses(), 4);
        for (int world = 0; world < 6; world++) {
            Check.due("class of " + world, x.bisimulationClass(world), due[world]);
        }
    }
}
