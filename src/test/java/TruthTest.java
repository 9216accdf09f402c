/** Promises 18 to 20: truth in worlds, and the formula that tells two worlds apart. */
public final class TruthTest {
    public static void main(String[] args) {
        truth();
        programs();
        distinguish();
        Check.finish();
    }

    private static DynamicLogicProver chain() {
        DynamicLogicProver x = new DynamicLogicProver();
        x.setWorlds(4);
        for (int i = 0; i < 3; i++) {
            x.setTransition(0, i, i + 1, true);
        }
        x.setTransition(1, 3, 0, true);
        x.setLetter(3, 0, true);
        x.setLetter(1, 1, true);
        return x;
    }

    private static void extension(DynamicLogicProver x, String text, int due) {
        int f = Check.parse(x, text);
        Check.due("19: " + text, x.extension(f), due);
        for (int world = 0; world < 4; world++) {
            Check.due("18: " + text + " in " + world, x.holds(f, world), due >> world & 1);
        }
        x.dropFormula();
    }

    private static void truth() {
        DynamicLogicProver x = chain();
        extension(x, "0", 0);
        extension(x, "1", 15);
        extension(x, "p", 8);
        extension(x, "q", 2);
        extension(x, "r", 0);
        extension(x, "!p", 7);
        extension(x, "p-q", 7);
        extension(x, "p|q", 10);
        extension(x, "p&q", 0);
        extension(x, "[a]p", 12);
        extension(x, "<a>p", 4);
        extension(x, "[c]0", 15);
        extension(x, "<c>1", 0);
        int f = Check.parse(x, "p");
        int[] wrong = {-1, 4, Integer.MAX_VALUE, Integer.MIN_VALUE, 32};
        for (int w : wrong) {
            Check.due("18: wrong world", x.holds(f, w), -1);
            Check.due("18: wrong formula", x.holds(w, 0), -1);
            Check.due("19: wrong formula", x.extension(w), -1);
        }
        Check.due("18: one formula past the last", x.holds(1, 0), -1);
    }

    private static void programs() {
        DynamicLogicProver x = chain();
        extension(x, "<a;a>p", 2);
        extension(x, "<a*>p", 15);
        extension(x, "<b+a>p", 4);
        extension(x, "<b;a>q", 8);
        extension(x, "[a*]!q", 12);
        extension(x, "[?p]0", 7);
        extension(x, "<?q;a>1", 2);
        extension(x, "<(?!q;a)*>p", 12);
        extension(x, "[(a+b)*]<a+b>1", 15);
        extension(x, "<(a;a)*>p", 10);
        extension(x, "[(a;a;a;b)*](p-0)", 7);
        extension(x, "<?0*>p", 8);
        extension(x, "[c*]p", 8);
    }

    private static void distinguish() {
        DynamicLogicProver x = chain();
        Check.due("20: no formulas", x.distinguish(0, 1), -5);
        Check.parse(x, "<a*>q");
        Check.parse(x, "s");
        Check.parse(x, "q|p");
        Check.parse(x, "q");
        Check.parse(x, "q");
        Check.parse(x, "p");
        Check.due("20: the first in the order", x.distinguish(0, 1), 3);
        Check.due("20: the other way round", x.distinguish(1, 0), 3);
        Check.due("20: p before q", x.distinguish(1, 3), 5);
        Check.due("20: only the large one", x.distinguish(0, 2), 0);
        Check.due("20: the same world", x.distinguish(2, 2), -5);
        x.setWorlds(2);
        Check.due("20: no such formula", x.distinguish(0, 1), -5);
        int[][] wrong = {{2, 0}, {0, 2}, {-1, 0}, {0, -1}, {Integer.MIN_VALUE, 0}, {0, Integer.MAX_VALUE}};
        for (int[] pair : wrong) {
            Check.due("20: wrong", x.distinguish(pair[0], pair[1]), -1);
        }
        Check.due("20: worlds come first", new DynamicLogicProver().distinguish(0, 1), -1);
    }
}
