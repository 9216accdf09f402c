/** Promises 32 to 36: filtration. */
public final class FilterTest {
    public static void main(String[] args) {
        filter();
        lettersOutside();
        notAllKept();
        wrongArguments();
        Check.finish();
    }

    /** 0 -a-> 1 -a-> 2 -b-> 3, 3 -a-> 3; p in 1 and 3, q in 0. */
    private static DynamicLogicProver four() {
        DynamicLogicProver x = new DynamicLogicProver();
        x.setWorlds(4);
        x.setTransition(0, 0, 1, true);
        x.setTransition(0, 1, 2, true);
        x.setTransition(1, 2, 3, true);
        x.setTransition(0, 3, 3, true);
        x.setLetter(1, 0, true);
        x.setLetter(3, 0, true);
        x.setLetter(0, 1, true);
        return x;
    }

    private static void filter() {
        DynamicLogicProver x = four();
        int p = Check.parse(x, "p");
        int q = Check.parse(x, "q");
        int box = Check.parse(x, "[a]p");
        Check.due("32: by p", x.filterClasses(p), 2);
        Check.due("33: 0", x.filterClass(p, 0), 0);
        Check.due("33: 1", x.filterClass(p, 1), 1);
        Check.due("33: 2", x.filterClass(p, 2), 0);
        Check.due("33: 3", x.filterClass(p, 3), 1);
        Check.due("34: a from 0", x.filterSuccessors(p, 0, 0), 2);
        Check.due("34: a from 1", x.filterSuccessors(p, 0, 1), 3);
        Check.due("34: b from 0", x.filterSuccessors(p, 1, 0), 2);
        Check.due("34: b from 1", x.filterSuccessors(p, 1, 1), 0);
        Check.due("34: c", x.filterSuccessors(p, 2, 0), 0);
        Check.due("35: p", x.filterHolds(p, p, 0), 0);
        Check.due("35: p", x.filterHolds(p, p, 1), 1);
        Check.due("35: q is no member", x.filterHolds(p, q, 0), 0);
        Check.due("35: [a]p in the filtered model", x.filterHolds(p, box, 0), 1);
        Check.due("35: [a]p in the filtered model", x.filterHolds(p, box, 1), 0);
        Check.due("32: by [a]p", x.filterClasses(box), 3);
        Check.due("33: 2 is like 0", x.filterClass(box, 2), 0);
        Check.due("33: 3", x.filterClass(box, 3), 2);
        Check.due("35: members keep their truth", x.filterHolds(box, box, 1), 0);
        Check.due("queries leave the model", x.count(0), 4);
        Check.due("36: apply", x.applyFilter(p), 2);
        Check.due("36: worlds", x.count(0), 2);
        Check.due("36: transitions", x.count(1), 4);
        Check.due("36: letters of 0", x.letters(0), 0);
        Check.due("36: letters of 1", x.letters(1), 1);
        Check.due("36: successors", x.successors(0, 1), 3);
        Check.due("36: the formulas stay", x.count(2), 3);
        Check.due("36: once more", x.applyFilter(p), 2);
        Check.due("36: one class", x.applyFilter(q), 1);
        Check.due("36: no letters", x.letters(0), 0);
        Check.due("36: loops", x.count(1), 2);
    }

    private static void lettersOutside() {
        DynamicLogicProver x = four();
        int f = Check.parse(x, "[a+b]q");
        x.setLetter(0, 3, true);
        Check.due("36: apply", x.applyFilter(f), 3);
        Check.due("36: q stays, s goes", x.letters(0), 2);
        Check.due("36: p goes", x.letters(1), 0);
    }

    private static void notAllKept() {
        DynamicLogicProver x = four();
        int zero = Check.parse(x, "0");
        int test = Check.parse(x, "[?q]p");
        Check.due("32: 0 tells nothing", x.filterClasses(zero), 1);
        Check.due("34: loops", x.filterSuccessors(zero, 0, 0), 1);
        Check.due("35: 0", x.filterHolds(zero, zero, 0), 0);
        Check.due("32: the test is a member", x.filterClasses(test), 3);
        Check.due("33: 0", x.filterClass(test, 0), 0);
        Check.due("33: 1 and 3", x.filterClass(test, 3), 1);
        Check.due("33: 2", x.filterClass(test, 2), 2);
    }

    private static void wrongArguments() {
        DynamicLogicProver x = four();
        int p = Check.parse(x, "p");
        for (int wrong : new int[] {-1, 4, 6, Integer.MAX_VALUE, Integer.MIN_VALUE}) {
            Check.due("32: wrong", x.filterClasses(wrong), -1);
            Check.due("33: wrong formula", x.filterClass(wrong, 0), -1);
            Check.due("33: wrong world", x.filterClass(p, wrong), -1);
            Check.due("34: wrong formula", x.filterSuccessors(wrong, 0, 0), -1);
            Check.due("34: wrong program", x.filterSuccessors(p, wrong, 0), -1);
            Check.due("34: wrong class", x.filterSuccessors(p, 0, wrong), -1);
            Check.due("35: wrong formula", x.filterHolds(wrong, p, 0), -1);
            Check.due("35: wrong formula", x.filterHolds(p, wrong, 0), -1);
            Check.due("35: wrong class", x.filterHolds(p, p, wrong), -1);
            Check.due("36: wrong", x.applyFilter(wrong), -1);
        }
        Check.due("34: a world that is no class", x.filterSuccessors(p, 0, 2), -1);
        Check.due("34: program 3", x.filterSuccessors(p, 3, 0), -1);
        Check.due("35: a world that is no class", x.filterHolds(p, p, 2), -1);
        Check.due("36: the model stays", x.count(0), 4);
        Check.due("36: the model stays", x.count(1), 4);
    }
}
