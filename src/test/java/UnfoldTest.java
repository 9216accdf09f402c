/** Promises 37 and 38: unfolding steps and bounded iterations. */
public final class UnfoldTest {
    public static void main(String[] args) {
        unfold("[a;b]p", "[a][b]p");
        unfold("[a+b]p", "(([a]p-([b]p-0))-0)");
        unfold("[a*]p", "((p-([a][a*]p-0))-0)");
        unfold("[?q]p", "(q-p)");
        unfold("p-[?q]p", "(p-(q-p))");
        unfold("[?q]p-[?q]p", "((q-p)-[?q]p)");
        unfold("[a][b;c]p-[?q]p", "([a][b][c]p-[?q]p)");
        unfold("[a]p-[b][?p]q", "([a]p-[b](p-q))");
        unfold("[(a;b);c]p", "[(a;b)][c]p");
        unfold("[?[a;b]q][c;c]p", "([(a;b)]q-[(c;c)]p)");
        unfold("[a;?[b;c]q]p", "[a][?[(b;c)]q]p");
        unfold("[a**]p", "((p-([a*][a**]p-0))-0)");
        unfold("<a;b>p", "([a][b](p-0)-0)");
        limitsOfUnfold();
        unroll("[a*]p", 0, "[?(0-0)]p");
        unroll("[a*]p", 1, "[(?(0-0)+(a;?(0-0)))]p");
        unroll("[a*]p", 2, "[(?(0-0)+(a;(?(0-0)+(a;?(0-0)))))]p");
        unroll("[a*]p", 3, "[(?(0-0)+(a;(?(0-0)+(a;(?(0-0)+(a;?(0-0)))))))]p");
        unroll("[a]p-q", 3, "([a]p-q)");
        unroll("[a*]p-[b*]q", 0, "([?(0-0)]p-[?(0-0)]q)");
        unroll("[?[a*]p]q", 0, "[?[?(0-0)]p]q");
        unroll("[a**]p", 1, "[(?(0-0)+((?(0-0)+(a;?(0-0)));?(0-0)))]p");
        limitsOfUnroll();
        Check.finish();
    }

    private static void unfold(String text, String due) {
        DynamicLogicProver x = new DynamicLogicProver();
        int f = Check.parse(x, text);
        Check.due("37: " + text, x.unfold(f), 1);
        Check.dueText("37: " + text, Check.text(x, 1), due);
        Check.due("37: " + text + " means the same", x.entails(0, 1) * 2 + x.entails(1, 0), 3);
        Check.due("37: size of " + text, x.textLength(1), due.length());
    }

    private static void limitsOfUnfold() {
        DynamicLogicProver x = new DynamicLogicProver();
        Check.due("37: none", x.unfold(0), -1);
        Check.due("37: no such box", x.unfold(Check.parse(x, "[a][b]p-q")), -5);
        // sizes: [P+Q]G becomes 5 larger than twice G with P and Q
        int fits = Check.parse(x, "[a+b](" + "p-".repeat(17) + "p)");
        Check.due("37: size before", x.formulaSize(fits), 39);
        Check.due("37: 80 would be the largest", x.unfold(fits), 2);
        Check.due("37: size after", x.formulaSize(2), 79);
        int large = Check.parse(x, "[a+b](" + "p-".repeat(18) + "p)");
        Check.due("37: too large", x.unfold(large), -5);
        while (x.count(2) < 12) {
            Check.parse(x, "q");
        }
        Check.due("37: twelve formulas", x.unfold(fits), -4);
        Check.due("37: no result comes before", x.unfold(large), -5);
        Check.due("37: no result comes before", x.unfold(0), -5);
        Check.due("37: the formula comes first", x.unfold(12), -1);
        Check.due("37: wrong", x.unfold(-1), -1);
        Check.due("37: wrong", x.unfold(Integer.MIN_VALUE), -1);
        Check.due("37: nothing stored", x.count(2), 12);
    }

    private static void unroll(String text, int n, String due) {
        DynamicLogicProver x = new DynamicLogicProver();
        int f = Check.parse(x, text);
        Check.due("38: " + text + " " + n, x.unroll(f, n), 1);
        Check.dueText("38: " + text + " " + n, Check.text(x, 1), due);
        Check.due("38: no iteration is left of " + text, x.starHeight(1), 0);
    }

    private static void limitsOfUnroll() {
        DynamicLogicProver x = new DynamicLogicProver();
        int f = Check.parse(x, "[a**]p");
        Check.due("38: below", x.unroll(f, -1), -2);
        Check.due("38: above", x.unroll(f, 4), -2);
        Check.due("38: above", x.unroll(f, Integer.MAX_VALUE), -2);
        // W(3) of a has 25 parts, and W(3) of that 22 and three times 25
        Check.due("38: too large", x.unroll(f, 3), -5);
        Check.due("38: two rounds", x.unroll(f, 2), 1);
        Check.due("38: size", x.formulaSize(1), 2 + 4 + 12 + 2 * 18);
        while (x.count(2) < 12) {
            Check.parse(x, "q");
        }
        Check.due("38: twelve formulas", x.unroll(f, 2), -4);
        Check.due("38: the size comes before", x.unroll(f, 3), -5);
        Check.due("38: the range comes before", x.unroll(f, 4), -2);
        Check.due("38: the formula comes first", x.unroll(12, 4), -1);
        Check.due("38: wrong", x.unroll(-1, 0), -1);
    }
}
