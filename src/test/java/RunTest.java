/** Promises 21 to 26: reach, shortest runs, counts of runs, iterations and cycles. */
public final class RunTest {
    private static final long NO_VALUE = Long.MIN_VALUE;

    public static void main(String[] args) {
        reach();
        runSteps();
        bestRun();
        testsOnTheWay();
        longRun();
        runCount();
        iterations();
        cycles();
        wrongArguments();
        Check.finish();
    }

    private static DynamicLogicProver ring() {
        DynamicLogicProver x = new DynamicLogicProver();
        x.setWorlds(4);
        x.setTransition(0, 0, 1, true);
        x.setTransition(0, 1, 2, true);
        x.setTransition(0, 2, 0, true);
        x.setTransition(1, 2, 3, true);
        x.setLetter(1, 0, true);
        return x;
    }

    private static void reach() {
        DynamicLogicProver x = ring();
        Check.due("21: a", x.reach(Check.parse(x, "[a]p"), 0), 2);
        Check.due("21: a*", x.reach(Check.parse(x, "[a*]p"), 0), 7);
        Check.due("21: a;b", x.reach(Check.parse(x, "[a;b]p"), 1), 8);
        Check.due("21: a+b", x.reach(Check.parse(x, "[a+b]p"), 2), 9);
        int test = Check.parse(x, "[?p]0");
        Check.due("21: ?p where p is true", x.reach(test, 1), 2);
        Check.due("21: ?p where p is false", x.reach(test, 0), 0);
        Check.due("21: no box", x.reach(Check.parse(x, "<a>p"), 0), -3);
        Check.due("21: c", x.reach(Check.parse(x, "[c]p"), 0), 0);
        Check.due("21: the body does not count", x.reach(Check.parse(x, "[(a+b)*]0"), 3), 8);
    }

    private static void runSteps() {
        DynamicLogicProver x = ring();
        int all = Check.parse(x, "[(a+b)*]p");
        int two = Check.parse(x, "[(a;a)*]p");
        int test = Check.parse(x, "[?p;?1]p");
        int empty = Check.parse(x, "[?0*]p");
        Check.due("22: itself", x.runSteps(all, 0, 0), 0);
        Check.due("22: to 3", x.runSteps(all, 0, 3), 3);
        Check.due("22: not back", x.runSteps(all, 3, 0), -5);
        Check.due("22: two by two", x.runSteps(two, 0, 1), 4);
        Check.due("22: a test has no step", x.runSteps(test, 1, 1), 0);
        Check.due("22: a test that fails", x.runSteps(test, 0, 0), -5);
        Check.due("22: none at all", x.runSteps(empty, 3, 3), 0);
        Check.due("22: none at all", x.runSteps(empty, 3, 2), -5);
        Check.due("22: no box", x.runSteps(Check.parse(x, "p"), 0, 0), -3);
    }

    private static void bestRun() {
        DynamicLogicProver x = new DynamicLogicProver();
        x.setWorlds(5);
        x.setTransition(1, 0, 1, true);
        x.setTransition(0, 0, 3, true);
        x.setTransition(0, 0, 2, true);
        x.setTransition(2, 2, 4, true);
        x.setTransition(0, 3, 4, true);
        x.setTransition(0, 1, 4, true);
        int f = Check.parse(x, "[(a+b+c)*]p");
        Check.due("22: steps", x.runSteps(f, 0, 4), 2);
        Check.due("23: the program counts first", x.runStep(f, 0, 4, 0, 0), 0);
        Check.due("23: then the world", x.runStep(f, 0, 4, 0, 1), 2);
        Check.due("23: second step", x.runStep(f, 0, 4, 1, 0), 2);
        Check.due("23: second step", x.runStep(f, 0, 4, 1, 1), 4);
        Check.due("23: no third step", x.runStep(f, 0, 4, 2, 0), -5);
        Check.due("23: no step before", x.runStep(f, 0, 4, -1, 0), -5);
        Check.due("23: far away", x.runStep(f, 0, 4, Integer.MAX_VALUE, 1), -5);
        Check.due("23: no run", x.runStep(f, 4, 0, 0, 0), -5);
        Check.due("23: a run without steps", x.runStep(f, 0, 0, 0, 0), -5);
        int g = Check.parse(x, "[b;a+a;a]p");
        Check.due("23: what the program allows", x.runStep(g, 0, 4, 0, 0), 0);
        Check.due("23: what the program allows", x.runStep(g, 0, 4, 0, 1), 3);
        int h = Check.parse(x, "[b;a]p");
        Check.due("23: the only run", x.runStep(h, 0, 4, 0, 0), 1);
        Check.due("23: the only run", x.runStep(h, 0, 4, 1, 0), 0);
        int s = Check.parse(x, "p");
        Check.due("23: no box", x.runStep(s, 0, 0, 0, 0), -3);
        Check.due("23: no box comes second", x.runStep(s, 0, 0, 0, 2), -1);
        Check.due("23: wrong part", x.runStep(f, 0, 4, 0, 2), -1);
        Check.due("23: wrong part", x.runStep(f, 0, 4, 0, -1), -1);
    }

    private static void testsOnTheWay() {
        DynamicLogicProver x = new DynamicLogicProver();
        x.setWorlds(3);
        x.setTransition(0, 0, 1, true);
        x.setTransition(0, 0, 2, true);
        x.setTransition(1, 1, 2, true);
        x.setTransition(1, 2, 2, true);
        x.setLetter(2, 2, true);
        int f = Check.parse(x, "[a;?r;b]p");
        Check.due("22: through the test", x.runSteps(f, 0, 2), 2);
        Check.due("23: the world with r", x.runStep(f, 0, 2, 0, 1), 2);
        Check.due("24: one run", x.runCount(f, 0, 2, 2), 1);
        int g = Check.parse(x, "[(?!r;a+?r;b)*;?r]p");
        Check.due("22: while", x.runSteps(g, 0, 2), 1);
        Check.due("24: while", x.runCount(g, 0, 2, 3), 1);
        int h = Check.parse(x, "[(?r)*;(?1;?1)*;a]p");
        Check.due("22: rings of tests end", x.runSteps(h, 0, 1), 1);
        int diamond = Check.parse(x, "[a;?<b>r]p");
        Check.due("21: a test with a box", x.reach(diamond, 0), 6);
        Check.due("24: a test with a box", x.runCount(diamond, 0, 1, 1), 1);
    }

    private static void longRun() {
        DynamicLogicProver x = new DynamicLogicProver();
        x.setWorlds(6);
        for (int i = 0; i < 6; i++) {
            x.setTransition(0, i, (i + 1) % 6, true);
        }
        // a run of a multiple of 7 steps that ends five worlds on
        int f = Check.parse(x, "[(a;a;a;a;a;a;a)*]p");
        Check.due("22: 35 steps", x.runSteps(f, 0, 5), 35);
        Check.due("23: step 34", x.runStep(f, 0, 5, 34, 1), 5);
        Check.due("23: step 33", x.runStep(f, 0, 5, 33, 1), 4);
        Check.due("23: no step 35", x.runStep(f, 0, 5, 35, 1), -5);
        Check.due("25: five rounds", x.iterations(f, 0, 5), 5);
    }

    private static void runCount() {
        DynamicLogicProver x = new DynamicLogicProver();
        x.setWorlds(6);
        for (int program = 0; program < 3; program++) {
            for (int from = 0; from < 6; from++) {
                for (int to = 0; to < 6; to++) {
                    x.setTransition(program, from, to, true);
                }
            }
        }
        int f = Check.parse(x, "[(a+b+c)*]p");
        Check.due("24: all sequences", x.runCount(f, 0, 5, 8), 3 * 18L * 18 * 18 * 18 * 18 * 18 * 18);
        Check.due("24: no step", x.runCount(f, 0, 5, 0), 0);
        Check.due("24: no step", x.runCount(f, 5, 5, 0), 1);
        Check.due("24: one step", x.runCount(f, 0, 5, 1), 3);
        int same = Check.parse(x, "[a+a;?1+?1;a]p");
        Check.due("24: a sequence counts once", x.runCount(same, 0, 5, 1), 1);
        int stars = Check.parse(x, "[a*;a*;(a*)*]p");
        Check.due("24: a sequence counts once", x.runCount(stars, 0, 5, 3), 36);
        int late = Check.parse(x, "[(a+b)*;a;(a+b);(a+b)]p");
        Check.due("24: the third from the end", x.runCount(late, 0, 5, 8), 128L * 6 * 6 * 6 * 6 * 6 * 6 * 6);
        int twice = Check.parse(x, "[(a+b)*;a;(a+b)*]p");
        Check.due("24: at least one a", x.runCount(twice, 0, 5, 8), 255L * 6 * 6 * 6 * 6 * 6 * 6 * 6);
        Check.due("24: too few", x.runCount(f, 0, 5, -1), NO_VALUE);
        Check.due("24: too many", x.runCount(f, 0, 5, 9), NO_VALUE);
        Check.due("24: no box", x.runCount(Check.parse(x, "p-q"), 0, 0, 1), NO_VALUE);
    }

    private static void iterations() {
        DynamicLogicProver x = ring();
        int f = Check.parse(x, "[(a;a)*]p");
        Check.due("25: none", x.iterations(f, 0, 0), 0);
        Check.due("25: one", x.iterations(f, 0, 2), 1);
        Check.due("25: two", x.iterations(f, 0, 1), 2);
        Check.due("25: no such runs", x.iterations(f, 0, 3), -5);
        int g = Check.parse(x, "[a**]p");
        Check.due("25: a run of a* leads anywhere", x.iterations(g, 0, 2), 1);
        Check.due("25: no iteration", x.iterations(Check.parse(x, "[a*;b*]p"), 0, 0), -3);
        Check.due("25: no box", x.iterations(Check.parse(x, "<a*>p"), 0, 0), -3);
    }

    private static void cycles() {
        DynamicLogicProver x = ring();
        Check.due("26: the ring", x.cycles(Check.parse(x, "[a*]p")), 7);
        Check.due("26: a alone", x.cycles(Check.parse(x, "[a]p")), 0);
        Check.due("26: three a", x.cycles(Check.parse(x, "[a;a;a]p")), 7);
        Check.due("26: a test has no step", x.cycles(Check.parse(x, "[?1]p")), 0);
        Check.due("26: through p only", x.cycles(Check.parse(x, "[(?p;a;a;a)*]p")), 2);
        Check.due("26: a test or a ring", x.cycles(Check.parse(x, "[(a+?p)*;?p]p")), 2);
        Check.due("26: no box", x.cycles(Check.parse(x, "1")), -3);
        x.setTransition(2, 3, 3, true);
        Check.due("26: a loop", x.cycles(Check.parse(x, "[b+c]p")), 8);
    }

    private static void wrongArguments() {
        DynamicLogicProver x = ring();
        int box = Check.parse(x, "[a*]p");
        int letter = Check.parse(x, "p");
        for (int wrong : new int[] {-1, 4, 32, Integer.MAX_VALUE, Integer.MIN_VALUE}) {
            Check.due("21: wrong formula", x.reach(wrong, 0), -1);
            Check.due("21: wrong world", x.reach(box, wrong), -1);
            Check.due("21: the world comes first", x.reach(letter, wrong), -1);
            Check.due("22: wrong formula", x.runSteps(wrong, 0, 0), -1);
            Check.due("22: wrong world", x.runSteps(box, wrong, 0), -1);
            Check.due("22: the world comes first", x.runSteps(letter, 0, wrong), -1);
            Check.due("23: wrong formula", x.runStep(wrong, 0, 0, 0, 0), -1);
            Check.due("23: wrong world", x.runStep(box, wrong, 0, 0, 0), -1);
            Check.due("23: the world comes first", x.runStep(letter, 0, wrong, 0, 0), -1);
            Check.due("24: wrong formula", x.runCount(wrong, 0, 0, 0), NO_VALUE);
            Check.due("24: wrong world", x.runCount(box, wrong, 0, 0), NO_VALUE);
            Check.due("24: wrong world", x.runCount(box, 0, wrong, 0), NO_VALUE);
            Check.due("25: wrong formula", x.iterations(wrong, 0, 0), -1);
            Check.due("25: wrong world", x.iterations(box, 0, wrong), -1);
            Check.due("25: the world comes first", x.iterations(letter, wrong, 0), -1);
            Check.due("26: wrong formula", x.cycles(wrong), -1);
        }
    }
}
