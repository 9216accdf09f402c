/** Promises 27 to 31: closures and their members. */
public final class ClosureTest {
    public static void main(String[] args) {
        members("p", "p");
        members("0", "0");
        members("p-q", "p", "q", "(p-q)");
        members("[a]p", "p", "[a]p");
        members("[a;b]p", "p", "[b]p", "[(a;b)]p", "[a][b]p");
        members("[a+b]p", "p", "[a]p", "[b]p", "[(a+b)]p");
        members("[a*]p", "p", "[a*]p", "[a][a*]p");
        members("[?q]p", "p", "q", "[?q]p");
        members("<a*>p", "0", "p", "(p-0)", "[a*](p-0)", "([a*](p-0)-0)", "[a][a*](p-0)");
        members("p-p", "p", "(p-p)");
        members("[(?q)*]p", "p", "q", "[?q*]p", "[?q][?q*]p");
        members("[?[b]r;a]p", "p", "r", "[a]p", "[b]r", "[(?[b]r;a)]p", "[?[b]r][a]p");
        bases();
        storeMember();
        trueMembers();
        wrongArguments();
        Check.finish();
    }

    /** The closure of a formula, in order. */
    private static void members(String text, String... due) {
        DynamicLogicProver x = new DynamicLogicProver();
        int f = Check.parse(x, text);
        Check.due("27: " + text, x.closureSize(f), due.length);
        for (int i = 0; i < due.length; i++) {
            int g = x.storeMember(f, i);
            Check.due("30: " + text + " member " + i, g, 1);
            Check.dueText("30: " + text + " member " + i, Check.text(x, g), due[i]);
            Check.due("29: " + text + " member " + i, x.closureIndex(f, g), i);
            x.dropFormula();
        }
        Check.due("30: " + text + " one more", x.storeMember(f, due.length), -5);
        Check.due("30: " + text + " one before", x.storeMember(f, -1), -5);
        Check.due("29: " + text + " no member", x.closureIndex(f, Check.parse(x, "s&s")), -5);
    }

    private static void bases() {
        DynamicLogicProver x = new DynamicLogicProver();
        Check.due("28: none", x.baseMembers(Check.parse(x, "1")), 0);
        Check.due("28: letters", x.baseMembers(Check.parse(x, "p|q-r&p")), 3);
        Check.due("28: boxes", x.baseMembers(Check.parse(x, "[a]0")), 1);
        Check.due("28: an iteration", x.baseMembers(Check.parse(x, "[a*]p")), 2);
        Check.due("28: a sequence", x.baseMembers(Check.parse(x, "[a;b]p")), 3);
        Check.due("28: a test", x.baseMembers(Check.parse(x, "[?q;a+b]p")), 4);
        Check.due("28: equal boxes count once", x.baseMembers(Check.parse(x, "[a+a]p")), 2);
    }

    private static void storeMember() {
        DynamicLogicProver x = new DynamicLogicProver();
        // the program of size 39 stands twice in a member, which is too large then
        int f = Check.parse(x, "[(" + "a;".repeat(19) + "a)*]p");
        Check.due("30: size", x.formulaSize(f), 42);
        int last = x.closureSize(f) - 1;
        Check.due("30: a member above 80", x.storeMember(f, last), -5);
        Check.due("30: a member below", x.storeMember(f, 0), 1);
        while (x.count(2) < 12) {
            Check.parse(x, "q");
        }
        Check.due("30: twelve formulas", x.storeMember(f, 0), -4);
        Check.due("30: no such member comes second", x.storeMember(f, last + 1), -5);
        Check.due("30: the size comes second", x.storeMember(f, last), -5);
        Check.due("30: the formula comes first", x.storeMember(12, last), -1);
        Check.due("30: far away", x.storeMember(f, Integer.MAX_VALUE), -5);
        Check.due("30: far away", x.storeMember(f, Integer.MIN_VALUE), -5);
    }

    private static void trueMembers() {
        DynamicLogicProver x = new DynamicLogicProver();
        x.setWorlds(2);
        x.setTransition(0, 0, 1, true);
        x.setLetter(0, 0, true);
        int f = Check.parse(x, "[a*]p");
        Check.due("31: p alone", x.trueMembers(f, 0), 1);
        Check.due("31: [a][a*]p alone", x.trueMembers(f, 1), 1);
        x.setLetter(1, 0, true);
        Check.due("31: all", x.trueMembers(f, 0), 3);
        Check.due("31: none", x.trueMembers(Check.parse(x, "0"), 0), 0);
    }

    private static void wrongArguments() {
        DynamicLogicProver x = new DynamicLogicProver();
        int f = Check.parse(x, "[a]p");
        for (int wrong : new int[] {-1, 1, 12, Integer.MAX_VALUE, Integer.MIN_VALUE}) {
            Check.due("27: wrong", x.closureSize(wrong), -1);
            Check.due("28: wrong", x.baseMembers(wrong), -1);
            Check.due("29: wrong", x.closureIndex(wrong, f), -1);
            Check.due("29: wrong", x.closureIndex(f, wrong), -1);
            Check.due("30: wrong", x.storeMember(wrong, 0), -1);
            Check.due("31: wrong formula", x.trueMembers(wrong, 0), -1);
            Check.due("31: wrong world", x.trueMembers(f, wrong), -1);
        }
        Check.due("queries store nothing", x.count(2), 1);
    }
}
