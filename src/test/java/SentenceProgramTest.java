/**
 * Sentences of the document that a further reading found without a test of their own, for promises 21 to 38: runs, closures,
 * filtration and unfolding. The comment at a test is the sentence.
 */
public final class SentenceProgramTest {
    public static void main(String[] args) throws ReflectiveOperationException {
        Edge.runAll(SentenceProgramTest.class);
    }

    /** Rows of program, from and to. */
    private static DynamicLogicProver model(int worlds, int... rows) {
        DynamicLogicProver x = new DynamicLogicProver();
        x.setWorlds(worlds);
        for (int i = 0; i < rows.length; i += 3) {
            x.setTransition(rows[i], rows[i + 1], rows[i + 2], true);
        }
        return x;
    }

    /** The best run of a program, as the program and the world of each step. */
    private static void best(DynamicLogicProver x, String text, int from, int to, int... due) {
        int f = Check.parse(x, text);
        Check.due(text + " steps", x.runSteps(f, from, to), due.length / 2);
        for (int i = 0; i < due.length; i++) {
            Check.due(text + " step " + i / 2 + " part " + i % 2, x.runStep(f, from, to, i / 2, i % 2), due[i]);
        }
        Check.due(text + " behind the last step", x.runStep(f, from, to, due.length / 2, 0), -5);
        x.dropFormula();
    }

    private static void reached(DynamicLogicProver x, String text, int... due) {
        int f = Check.parse(x, text);
        for (int world = 0; world < due.length; world++) {
            Check.due(text + " from " + world, x.reach(f, world), due[world]);
        }
        x.dropFormula();
    }

    // ---- 21 and 22

    /** A program has runs from world to world: each kind of program in one model, from every world. */
    static void promise21TheRunsOfEveryKindOfProgram() {
        // 0 -a-> 1 -a-> 2, 1 -b-> 0, 2 -b-> 3; q in 1 and 3
        DynamicLogicProver x = model(4, 0, 0, 1, 0, 1, 2, 1, 1, 0, 1, 2, 3);
        x.setLetter(1, 1, true);
        x.setLetter(3, 1, true);
        reached(x, "[a]0", 2, 4, 0, 0);
        reached(x, "[b]0", 0, 1, 8, 0);
        reached(x, "[c]0", 0, 0, 0, 0);
        reached(x, "[a;b]0", 1, 8, 0, 0);
        reached(x, "[b;a]0", 0, 2, 0, 0);
        reached(x, "[a+b]0", 2, 5, 8, 0);
        reached(x, "[a*]0", 7, 6, 4, 8);
        reached(x, "[(a;b)*]0", 1, 10, 4, 8);
        reached(x, "[?q]0", 0, 2, 0, 8);
        reached(x, "[?q;a]0", 0, 4, 0, 0);
        reached(x, "[a;?q]0", 2, 0, 0, 0);
        reached(x, "[(a+b)*;?q]0", 10, 10, 8, 8);
        reached(x, "[?[b]q]0", 1, 0, 4, 8);
    }

    /** The smallest number of steps: transitions count, and not tests or the runs that an iteration is made of. */
    static void promise22OnlyTransitionsAreSteps() {
        DynamicLogicProver x = model(3, 0, 0, 1, 0, 1, 2, 1, 0, 2);
        best(x, "[?1;a;?1;?1;a;?1]0", 0, 2, 0, 1, 0, 2);
        best(x, "[(a;a)*]0", 0, 2, 0, 1, 0, 2);
        best(x, "[a;a+b]0", 0, 2, 1, 2);
        best(x, "[(a*;b*)*]0", 0, 2, 1, 2);
        best(x, "[(?1)*;(a+b)*;(?1)*]0", 0, 0);
    }

    // ---- 23

    /** The best run has the smallest number of steps: a shorter run comes before one with smaller steps. */
    static void promise23AShorterRunBeforeSmallerSteps() {
        DynamicLogicProver x = model(4, 0, 0, 1, 0, 1, 3, 2, 0, 3, 1, 0, 2, 1, 2, 3);
        best(x, "[(a+b+c)*]0", 0, 3, 2, 3);
        best(x, "[(a+b)*]0", 0, 3, 0, 1, 0, 3);
        best(x, "[(b+c);(b+?1)]0", 0, 3, 2, 3);
        // the first step by a leads on in three steps, the one by b in two
        DynamicLogicProver y = model(5, 0, 0, 1, 0, 1, 2, 0, 2, 4, 1, 0, 3, 0, 3, 4);
        best(y, "[(a+b)*]0", 0, 4, 1, 3, 0, 4);
        best(y, "[a*]0", 0, 4, 0, 1, 0, 2, 0, 4);
    }

    /** Its sequence of steps is lexicographically smallest: a smaller step that leads to no end is no step of a run. */
    static void promise23ASmallerStepWithoutAnEnd() {
        DynamicLogicProver x = model(4, 0, 0, 1, 1, 0, 2, 2, 2, 3);
        best(x, "[(a+b);c]0", 0, 3, 1, 2, 2, 3);
        x.setTransition(2, 1, 3, true);
        best(x, "[(a+b);c]0", 0, 3, 0, 1, 2, 3);
        x.setLetter(2, 0, true);
        best(x, "[(a+b);?p;c]0", 0, 3, 1, 2, 2, 3);
        best(x, "[a;c;?p+b;c]0", 0, 3, 1, 2, 2, 3);
    }

    /** Steps are compared by their atomic programs first and then by the worlds; an earlier step before a later one. */
    static void promise23AnEarlierStepBeforeALaterOne() {
        DynamicLogicProver x = model(5, 0, 0, 3, 1, 0, 1, 2, 3, 4, 0, 1, 4);
        best(x, "[(a+b+c)*]0", 0, 4, 0, 3, 2, 4);
        DynamicLogicProver y = model(5, 1, 0, 2, 1, 0, 3, 2, 2, 4, 0, 3, 4);
        best(y, "[(a+b+c)*]0", 0, 4, 1, 2, 2, 4);
        DynamicLogicProver z = model(5, 1, 0, 3, 2, 3, 4, 0, 3, 4);
        best(z, "[(a+b+c)*]0", 0, 4, 1, 3, 0, 4);
    }

    // ---- 24 to 26

    private static void counted(DynamicLogicProver x, String text, int from, int to, int steps, int due) {
        int f = Check.parse(x, text);
        Check.due(text + " from " + from + " to " + to + " in " + steps, x.runCount(f, from, to, steps), due);
        x.dropFormula();
    }

    /** Different sequences: they differ in a program or in a world on the way. A sequence that several runs have counts once. */
    static void promise24DifferentSequences() {
        DynamicLogicProver x = model(4, 0, 0, 1, 0, 0, 2, 1, 0, 1, 0, 1, 3, 0, 2, 3);
        counted(x, "[(a+b);a]0", 0, 3, 2, 3);
        counted(x, "[a;a]0", 0, 3, 2, 2);
        counted(x, "[b;a]0", 0, 3, 2, 1);
        counted(x, "[(a+b)*]0", 0, 3, 2, 3);
        counted(x, "[(a+b+a)*;(a+b)*;a]0", 0, 3, 2, 3);
        counted(x, "[a;a+a;?1;a+a*]0", 0, 3, 2, 2);
        counted(x, "[a;a]0", 0, 3, 1, 0);
        counted(x, "[a;a]0", 0, 3, 3, 0);
        counted(x, "[?1+?1;?1+a*]0", 3, 3, 0, 1);
    }

    /** The smallest number of runs of P: a run of P may have many steps or none. */
    static void promise25RunsAndNotSteps() {
        DynamicLogicProver x = model(4, 0, 0, 1, 0, 1, 2, 0, 2, 3);
        String[] texts = {"[(a;a)*]0", "[(a+a;a)*]0", "[(a;a;a+a)*]0", "[(?1+a)*]0", "[a**]0", "[(a;(a+?1))*]0"};
        int[][] due = {{0, -5, 1, -5}, {0, 1, 1, 2}, {0, 1, 2, 1}, {0, 1, 2, 3}, {0, 1, 1, 1}, {0, 1, 1, 2}};
        for (int i = 0; i < texts.length; i++) {
            int f = Check.parse(x, texts[i]);
            for (int to = 0; to < 4; to++) {
                Check.due(texts[i] + " to " + to, x.iterations(f, 0, to), due[i][to]);
            }
        }
    }

    /** A run of at least one step back to the same world, of the whole program. */
    static void promise26ARunOfTheWholeProgram() {
        DynamicLogicProver x = model(4, 0, 0, 1, 1, 1, 0, 2, 2, 2, 0, 3, 0);
        Object[] rows = {"[a]0", 0, "[a;b]0", 1, "[b;a]0", 2, "[(a;b)*]0", 1, "[(a+b)*]0", 3, "[(a+b+c)*]0", 7, "[c]0", 4,
            "[?1;c*]0", 4, "[a;b;?0]0", 0, "[?1+c]0", 4, "[(a;b)*;?1]0", 1, "[a*;b*]0", 1, "[b*;a*]0", 2};
        for (int i = 0; i < rows.length; i += 2) {
            int f = Check.parse(x, (String) rows[i]);
            Check.due((String) rows[i], x.cycles(f), (Integer) rows[i + 1]);
            x.dropFormula();
        }
    }

    // ---- 27 to 31

    /** The smallest set with these properties, numbered in the order of formulas: a choice, a sequence, a test in an iteration. */
    static void promise30EveryMemberOfALargerClosure() {
        DynamicLogicProver x = new DynamicLogicProver();
        int f = Check.parse(x, "[(a;b+?q)*]p");
        String whole = "[((a;b)+?q)*]p";
        String[] due = {"p", "q", whole, "[b]" + whole, "[?q]" + whole, "[(a;b)]" + whole, "[a][b]" + whole, "[((a;b)+?q)]" + whole};
        Check.due("members", x.closureSize(f), due.length);
        Check.due("base members: p, q and two boxes", x.baseMembers(f), 4);
        for (int member = 0; member < due.length; member++) {
            int g = x.storeMember(f, member);
            Check.dueText("member " + member, Check.text(x, g), due[member]);
            Check.due("number of " + due[member], x.closureIndex(f, g), member);
            x.dropFormula();
        }
    }

    /** What a closure has of a formula of a test and of the parts of an implication, and what it has not. */
    static void promise29WhatIsNoMember() {
        DynamicLogicProver x = new DynamicLogicProver();
        int f = Check.parse(x, "[a*;?(q-r)]p");
        String[] members = {"p", "q", "r", "q-r", "[?(q-r)]p", "[a*][?(q-r)]p", "[a][a*][?(q-r)]p"};
        for (String text : members) {
            Check.isTrue("a member: " + text, x.closureIndex(f, Check.parse(x, text)) >= 0);
            x.dropFormula();
        }
        Check.due("these and itself", x.closureSize(f), members.length + 1);
        for (String text : new String[] {"0", "s", "[a]p", "[a*]p", "!p", "[a][?(q-r)]p", "r-q", "[a*;?(q-r)]q"}) {
            Check.due("no member: " + text, x.closureIndex(f, Check.parse(x, text)), -5);
            x.dropFormula();
        }
    }

    // ---- 32 to 36

    /** Two worlds are equivalent if the same members of the closure are true in both: all members, and no other formula. */
    static void promise33AllMembersAndNothingElse() {
        DynamicLogicProver x = model(6, 0, 0, 5, 0, 1, 5, 0, 2, 4, 1, 0, 0);
        x.setLetter(5, 0, true);
        x.setLetter(1, 1, true);
        // [a]p is false in 2 alone; p is true in 5 alone; q and b are not in the closure
        int f = Check.parse(x, "[a]p");
        int[] due = {0, 0, 1, 0, 0, 2};
        for (int world = 0; world < 6; world++) {
            Check.due("class of " + world, x.filterClass(f, world), due[world]);
        }
        Check.due("classes", x.filterClasses(f), 3);
        Check.due("a from class 0", x.filterSuccessors(f, 0, 0), 4);
        Check.due("a from class 1", x.filterSuccessors(f, 0, 1), 1);
        Check.due("b is not in the closure and leads on", x.filterSuccessors(f, 1, 0), 1);
        int g = Check.parse(x, "q|[b]0");
        Check.due("q is not in the closure", x.filterHolds(f, g, 0), 0);
        Check.due("no b from class 1", x.filterHolds(f, g, 1), 1);
    }

    // ---- 37 and 38

    /** The first box, from left to right in the canonical text, whose program is not atomic; one step alone. */
    static void promise37TheFirstBoxAlone() {
        String[][] rows = {{"[a;b]p-[a;b]p", "([a][b]p-[(a;b)]p)"}, {"[a]p-[a;b]p", "([a]p-[a][b]p)"},
            {"[a][b][c;a]p", "[a][b][c][a]p"}, {"[a;b][a;b]p", "[a][b][(a;b)]p"}, {"([a]p-[?q]p)-[b*]p", "(([a]p-(q-p))-[b*]p)"},
            {"(p-q)-r-[a+b]0", "((p-q)-(r-(([a]0-([b]0-0))-0)))"}, {"[?[a*]p]q", "([a*]p-q)"},
            {"[?[a*]p*]q", "((q-([?[a*]p][?[a*]p*]q-0))-0)"}, {"[a][b*]p-[?p]p", "([a]((p-([b][b*]p-0))-0)-[?p]p)"},
            {"<a+b>p", "((([a](p-0)-([b](p-0)-0))-0)-0)"}};
        for (String[] row : rows) {
            DynamicLogicProver x = new DynamicLogicProver();
            Check.parse(x, row[0]);
            Check.due(row[0], x.unfold(0), 1);
            Check.dueText(row[0], Check.text(x, 1), row[1]);
        }
    }

    private static String bounded(String program, int n) {
        return n == 0 ? "?(0-0)" : "(?(0-0)+(" + program + ";" + bounded(program, n - 1) + "))";
    }

    /** Every iteration is replaced by a bounded one, the inner iterations first: W(0) is ?1 and W(k) is ?1+P;W(k-1). */
    static void promise38InnerIterationsFirst() {
        for (int n = 0; n <= 3; n++) {
            String[][] rows = {{"[a*]p", "[" + bounded("a", n) + "]p"},
                {"[a*;b]p", "[(" + bounded("a", n) + ";b)]p"},
                {"[a*]p-[b*]q", "([" + bounded("a", n) + "]p-[" + bounded("b", n) + "]q)"},
                {"[(?p;a)*]p", "[" + bounded("(?p;a)", n) + "]p"},
                {"[?[a*]p;b]p", "[(?[" + bounded("a", n) + "]p;b)]p"},
                {"[a**]p", "[" + bounded(bounded("a", n), n) + "]p"},
                {"[(?[a*]p;b)*]q", "[" + bounded("(?[" + bounded("a", n) + "]p;b)", n) + "]q"}};
            for (String[] row : rows) {
                DynamicLogicProver x = new DynamicLogicProver();
                Check.parse(x, row[0]);
                int size = row[1].replaceAll("[()\\]]", "").length();
                Check.due(row[0] + " " + n, x.unroll(0, n), size <= 80 ? 1 : -5);
                Check.due("size of " + row[0] + " " + n, x.formulaSize(1), size <= 80 ? size : -1);
                if (size <= 80) {
                    Check.dueText(row[0] + " " + n, Check.text(x, 1), row[1]);
                }
            }
        }
    }
}
