/** The boundary cases of promises 21 to 26: reach, shortest runs, counts of runs, iterations and cycles. */
public final class EdgeRunTest {
    /** Of the stored ones 0 is [a*]p, 1 is p, 2 is [a;b]q and 3 is an implication. */
    private static final int[] FORMULAS = {Edge.MIN, -1, 0, 1, 2, 3, 4, 12, Edge.MAX};
    private static final int[] WORLDS = {Edge.MIN, -1, 0, 1, 2, 3, 4, 6, Edge.MAX};
    private static final int[][] ALL = {FORMULAS, WORLDS, WORLDS};
    /** The numbers of steps by a alone; a leads from 0 to 1, from 1 to 2 and from 3 to 3. */
    private static final int[][] STEPS = {{0, 1, 2, -5}, {-5, 0, 1, -5}, {-5, -5, 0, -5}, {-5, -5, -5, 0}};

    public static void main(String[] args) throws ReflectiveOperationException {
        Edge.runAll(EdgeRunTest.class);
    }

    private static boolean in(int number) {
        return Edge.isIn(number, 0, 3);
    }

    private static boolean isBox(int f) {
        return f == 0 || f == 2;
    }

    // ---- 21

    static void promise21TheNumbersComeBeforeTheState() {
        int[][] due = {{7, 6, 4, 8}, {0, 8, 0, 0}};
        Edge.sweep(Fixture.PLAIN, "reach", new int[][] {FORMULAS, WORLDS}, (x, i) -> x.reach(i[0], i[1]),
                i -> !in(i[0]) || !in(i[1]) ? -1 : isBox(i[0]) ? due[i[0] / 2][i[1]] : -3);
        Edge.sweep(Fixture.FRESH, "reach", new int[][] {FORMULAS, WORLDS}, (x, i) -> x.reach(i[0], i[1]), i -> -1);
        Edge.sweep(Fixture.FULL, "reach", new int[][] {{11, 12}, {3, 4}}, (x, i) -> x.reach(i[0], i[1]),
                i -> i[0] == 11 && i[1] == 3 ? -3 : -1);
    }

    static void promise21NoWorldAndAllWorlds() {
        DynamicLogicProver x = new DynamicLogicProver();
        x.setWorlds(6);
        int f = Check.parse(x, "[a]p");
        int g = Check.parse(x, "[a*]p");
        int h = Check.parse(x, "[?0]p");
        Check.due("none", x.reach(f, 5), 0);
        Check.due("itself", x.reach(g, 5), 32);
        Check.due("none", x.reach(h, 5), 0);
        for (int i = 0; i < 6; i++) {
            x.setTransition(0, i, (i + 5) % 6, true);
        }
        Check.due("the world before", x.reach(f, 0), 32);
        Check.due("all", x.reach(g, 5), 63);
    }

    /** Formulas that look like boxes but are implications, and the other way round. */
    static void promise21OnlyBoxesHavePrograms() {
        DynamicLogicProver x = new DynamicLogicProver();
        String[] texts = {"0", "1", "p", "p-[a]p", "[a]p-p", "!([a]p)", "<a*>p", "[a]p&[a]p", "([a]p)", "[a][b]p", "[?p](p-q)"};
        for (String text : texts) {
            int f = Check.parse(x, text);
            boolean box = f >= 8;
            Check.due("21: " + text, x.reach(f, 0), box ? 0 : -3);
            Check.due("22: " + text, x.runSteps(f, 0, 0), box ? -5 : -3);
            Check.due("23: " + text, x.runStep(f, 0, 0, 0, 0), box ? -5 : -3);
            Check.due("24: " + text, x.runCount(f, 0, 0, 0), box ? 0 : Edge.NO_VALUE);
            Check.due("25: " + text, x.iterations(f, 0, 0), -3);
            Check.due("26: " + text, x.cycles(f), box ? 0 : -3);
        }
    }

    // ---- 22

    private static long steps(int f, int from, int to) {
        return f == 0 ? STEPS[from][to] : from == 1 && to == 3 ? 2 : -5;
    }

    static void promise22TheNumbersThenTheStateThenTheRun() {
        Edge.sweep(Fixture.PLAIN, "runSteps", ALL, (x, i) -> x.runSteps(i[0], i[1], i[2]),
                i -> !in(i[0]) || !in(i[1]) || !in(i[2]) ? -1 : isBox(i[0]) ? steps(i[0], i[1], i[2]) : -3);
        Edge.sweep(Fixture.FRESH, "runSteps", ALL, (x, i) -> x.runSteps(i[0], i[1], i[2]), i -> -1);
    }

    static void promise22NoStepAndManySteps() {
        DynamicLogicProver x = ring(6);
        Check.due("no step", x.runSteps(Check.parse(x, "[?1]p"), 5, 5), 0);
        Check.due("no run", x.runSteps(Check.parse(x, "[?1]p"), 5, 4), -5);
        Check.due("five steps", x.runSteps(Check.parse(x, "[a*]p"), 0, 5), 5);
        Check.due("no step rather than six", x.runSteps(Check.parse(x, "[a*]p"), 0, 0), 0);
        Check.due("at least one", x.runSteps(Check.parse(x, "[a;a*]p"), 0, 0), 6);
        // a program of 37 steps in a ring of six worlds needs five rounds for five worlds
        int f = Check.parse(x, "[(" + "a;".repeat(36) + "a)*]p");
        Check.due("size", x.formulaSize(f), 76);
        Check.due("five rounds", x.runSteps(f, 0, 5), 185);
        Check.due("the last step", x.runStep(f, 0, 5, 184, 1), 5);
        Check.due("no step behind it", x.runStep(f, 0, 5, 185, 1), -5);
        Check.due("rounds", x.iterations(f, 0, 5), 5);
    }

    private static DynamicLogicProver ring(int worlds) {
        DynamicLogicProver x = new DynamicLogicProver();
        x.setWorlds(worlds);
        for (int i = 0; i < worlds; i++) {
            x.setTransition(0, i, (i + 1) % worlds, true);
        }
        return x;
    }

    // ---- 23

    /** The steps of the best run, each as its program and world. */
    private static int[] best(int f, int from, int to) {
        if (f == 2) {
            return new int[] {0, 2, 1, 3};
        }
        int[] row = new int[2 * STEPS[from][to]];
        for (int i = 0; i < STEPS[from][to]; i++) {
            row[2 * i + 1] = from + i + 1;
        }
        return row;
    }

    private static long step(int[] i) {
        if (!in(i[0]) || !in(i[1]) || !in(i[2]) || !Edge.isIn(i[4], 0, 1)) {
            return -1;
        }
        if (!isBox(i[0])) {
            return -3;
        }
        long steps = steps(i[0], i[1], i[2]);
        return i[3] < 0 || i[3] >= steps ? -5 : best(i[0], i[1], i[2])[2 * i[3] + i[4]];
    }

    static void promise23TheNumbersThenTheStateThenTheStep() {
        int[] indices = {Edge.MIN, -1, 0, 1, 2, Edge.MAX};
        Edge.sweep(Fixture.PLAIN, "runStep", new int[][] {FORMULAS, WORLDS, WORLDS, indices, Edge.around(0, 1)},
                (x, i) -> x.runStep(i[0], i[1], i[2], i[3], i[4]), EdgeRunTest::step);
        Edge.sweep(Fixture.FRESH, "runStep", new int[][] {{0}, {0, 1}, {0, 1}, indices, Edge.around(0, 1)},
                (x, i) -> x.runStep(i[0], i[1], i[2], i[3], i[4]), i -> -1);
    }

    static void promise23ARunWithoutAStepHasNoStep() {
        DynamicLogicProver x = ring(3);
        int f = Check.parse(x, "[a*]p");
        for (int index : Edge.around(0, 0)) {
            for (int part = 0; part < 2; part++) {
                Check.due("index " + index, x.runStep(f, 1, 1, index, part), -5);
            }
        }
    }

    static void promise23TheLastProgramAndTheLastWorld() {
        DynamicLogicProver x = new DynamicLogicProver();
        x.setWorlds(6);
        x.setTransition(2, 0, 5, true);
        x.setTransition(2, 0, 4, true);
        x.setTransition(2, 5, 5, true);
        int f = Check.parse(x, "[c*]p");
        Check.due("program", x.runStep(f, 0, 5, 0, 0), 2);
        Check.due("world", x.runStep(f, 0, 5, 0, 1), 5);
        Check.due("one step alone", x.runStep(f, 0, 5, 1, 0), -5);
        int g = Check.parse(x, "[c;c;c]p");
        Check.due("three steps", x.runStep(g, 0, 5, 2, 1), 5);
        Check.due("no fourth one", x.runStep(g, 0, 5, 3, 1), -5);
    }

    static void promise23TheFirstProgramAndTheFirstWorld() {
        DynamicLogicProver x = new DynamicLogicProver();
        x.setWorlds(6);
        for (int to = 0; to < 6; to++) {
            x.setTransition(0, 5, to, true);
            x.setTransition(1, 5, to, true);
            x.setTransition(2, to, 4, true);
        }
        int f = Check.parse(x, "[(b+a);c]p");
        Check.due("program", x.runStep(f, 5, 4, 0, 0), 0);
        Check.due("world", x.runStep(f, 5, 4, 0, 1), 0);
        Check.due("the second program", x.runStep(f, 5, 4, 1, 0), 2);
        int g = Check.parse(x, "[a]p");
        Check.due("a step into world 0", x.runStep(g, 5, 0, 0, 1), 0);
        Check.due("its program", x.runStep(g, 5, 0, 0, 0), 0);
    }

    // ---- 24

    private static long sequences(int[] i) {
        if (!isBox(i[0]) || !in(i[1]) || !in(i[2]) || !Edge.isIn(i[3], 0, 8)) {
            return Edge.NO_VALUE;
        }
        if (i[0] == 2) {
            return i[1] == 1 && i[2] == 3 && i[3] == 2 ? 1 : 0;
        }
        // only the loop at 3 can be used more than once
        return i[1] == 3 && i[2] == 3 || STEPS[i[1]][i[2]] == i[3] ? 1 : 0;
    }

    static void promise24StepsFromNoneToEight() {
        int[] steps = {Edge.MIN, -1, 0, 1, 2, 3, 7, 8, 9, 64, Edge.MAX};
        Edge.sweep(Fixture.PLAIN, "runCount", new int[][] {FORMULAS, WORLDS, WORLDS, steps},
                (x, i) -> x.runCount(i[0], i[1], i[2], i[3]), EdgeRunTest::sequences);
        Edge.sweep(Fixture.FRESH, "runCount", new int[][] {{-1, 0}, {0, 1}, {0, 1}, {-1, 0, 8, 9}},
                (x, i) -> x.runCount(i[0], i[1], i[2], i[3]), i -> Edge.NO_VALUE);
    }

    /** The largest number there is: 18 ways for every step but the last, which has three. */
    static void promise24TheLargestNumber() {
        DynamicLogicProver x = new DynamicLogicProver();
        x.setWorlds(6);
        for (int program = 0; program < 3; program++) {
            for (int i = 0; i < 36; i++) {
                x.setTransition(program, i / 6, i % 6, true);
            }
        }
        int f = Check.parse(x, "[(a+b+c)*]p");
        long due = 3;
        Check.due("no step", x.runCount(f, 5, 5, 0), 1);
        Check.due("no step", x.runCount(f, 5, 4, 0), 0);
        for (int steps = 1; steps <= 8; steps++) {
            Check.due("steps " + steps, x.runCount(f, 5, 5, steps), due);
            due *= 18;
        }
        Check.due("nine steps", x.runCount(f, 5, 5, 9), Edge.NO_VALUE);
    }

    // ---- 25

    static void promise25TheNumbersThenTheStateThenTheRuns() {
        Edge.sweep(Fixture.PLAIN, "iterations", ALL, (x, i) -> x.iterations(i[0], i[1], i[2]),
                i -> !in(i[0]) || !in(i[1]) || !in(i[2]) ? -1 : i[0] == 0 ? STEPS[i[1]][i[2]] : -3);
        Edge.sweep(Fixture.FRESH, "iterations", ALL, (x, i) -> x.iterations(i[0], i[1], i[2]), i -> -1);
    }

    static void promise25OnlyIterations() {
        DynamicLogicProver x = new DynamicLogicProver();
        for (String text : new String[] {"[a]p", "[a;b*]p", "[a*+b*]p", "[?1]p", "[a*;b]p", "[a][a*]p", "<a*>p", "p"}) {
            Check.due(text, x.iterations(Check.parse(x, text), 0, 0), -3);
        }
        for (String text : new String[] {"[a*]p", "[(a)*]p", "[a**]p", "([(?0)*]p)"}) {
            Check.due(text, x.iterations(Check.parse(x, text), 0, 0), 0);
        }
    }

    static void promise25NoneAndFive() {
        DynamicLogicProver x = ring(6);
        int f = Check.parse(x, "[a*]p");
        for (int to = 0; to < 6; to++) {
            Check.due("to " + to, x.iterations(f, 0, to), to);
        }
        Check.due("a run of no step is no way", x.iterations(Check.parse(x, "[(?1)*]p"), 0, 1), -5);
        Check.due("two by two", x.iterations(Check.parse(x, "[(a;a)*]p"), 0, 1), -5);
        Check.due("five by five", x.iterations(Check.parse(x, "[(a;a;a;a;a)*]p"), 0, 1), 5);
    }

    // ---- 26

    static void promise26TheNumberComesBeforeTheState() {
        Edge.sweep(Fixture.PLAIN, "cycles", new int[][] {FORMULAS}, (x, i) -> x.cycles(i[0]),
                i -> !in(i[0]) ? -1 : i[0] == 0 ? 8 : i[0] == 2 ? 0 : -3);
        Edge.sweep(Fixture.FRESH, "cycles", new int[][] {FORMULAS}, (x, i) -> x.cycles(i[0]), i -> -1);
        Edge.sweep(Fixture.FULL, "cycles", new int[][] {{11, 12}}, (x, i) -> x.cycles(i[0]), i -> i[0] == 11 ? -3 : -1);
    }

    static void promise26NoWorldAndAllWorlds() {
        DynamicLogicProver x = ring(6);
        Check.due("a run of no step does not count", x.cycles(Check.parse(x, "[?1]p")), 0);
        Check.due("nor do many of them", x.cycles(Check.parse(x, "[(?1)*]p")), 0);
        Check.due("five steps", x.cycles(Check.parse(x, "[a;a;a;a;a]p")), 0);
        Check.due("six steps", x.cycles(Check.parse(x, "[a;a;a;a;a;a]p")), 63);
        Check.due("any steps", x.cycles(Check.parse(x, "[a*]p")), 63);
        x.setTransition(0, 5, 0, false);
        Check.due("a chain", x.cycles(Check.parse(x, "[a*]p")), 0);
        x.setTransition(1, 5, 5, true);
        Check.due("a loop at the last world", x.cycles(Check.parse(x, "[b]p")), 32);
    }
}
