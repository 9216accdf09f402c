/** The boundary cases of promises 27 to 31: closures and their members. */
public final class EdgeClosureTest {
    private static final int[] FORMULAS = {Edge.MIN, -1, 0, 1, 2, 3, 4, 5, 12, Edge.MAX};
    private static final int[] WORLDS = {Edge.MIN, -1, 0, 1, 2, 3, 4, 6, Edge.MAX};
    private static final int[] CLOSURES = {3, 1, 4, 5};

    public static void main(String[] args) throws ReflectiveOperationException {
        Edge.runAll(EdgeClosureTest.class);
    }

    private static boolean in(int number) {
        return Edge.isIn(number, 0, 3);
    }

    // ---- 27 and 28

    static void promise27OnlyFormulasThatExist() {
        Edge.sweep(Fixture.PLAIN, "closureSize", new int[][] {FORMULAS}, (x, i) -> x.closureSize(i[0]),
                i -> in(i[0]) ? CLOSURES[i[0]] : -1);
        Edge.sweep(Fixture.FRESH, "closureSize", new int[][] {FORMULAS}, (x, i) -> x.closureSize(i[0]), i -> -1);
        Edge.sweep(Fixture.FULL, "closureSize", new int[][] {{11, 12}}, (x, i) -> x.closureSize(i[0]),
                i -> i[0] == 11 ? 1 : -1);
    }

    static void promise27TheSmallestAndLargeClosures() {
        DynamicLogicProver x = new DynamicLogicProver();
        Check.due("0", x.closureSize(Check.parse(x, "0")), 1);
        Check.due("1 has 0 and 0-0", x.closureSize(Check.parse(x, "1")), 2);
        Check.due("equal parts count once", x.closureSize(Check.parse(x, "p-".repeat(39) + "p")), 40);
        // the boxes of 25 sequences and of 25 tests, [a]p, p and q
        Check.due("many tests", x.closureSize(Check.parse(x, "[" + "?q;".repeat(25) + "a]p")), 53);
        int boxes = Check.parse(x, "[a]".repeat(11) + "(" + "p-".repeat(26) + "p)");
        Check.due("size", x.formulaSize(boxes), 75);
        Check.due("eleven boxes around 27 formulas", x.closureSize(boxes), 11 + 27);
    }

    static void promise28OnlyFormulasThatExist() {
        int[] due = {2, 1, 3, 2};
        Edge.sweep(Fixture.PLAIN, "baseMembers", new int[][] {FORMULAS}, (x, i) -> x.baseMembers(i[0]),
                i -> in(i[0]) ? due[i[0]] : -1);
        Edge.sweep(Fixture.FRESH, "baseMembers", new int[][] {FORMULAS}, (x, i) -> x.baseMembers(i[0]), i -> -1);
        Edge.sweep(Fixture.FULL, "baseMembers", new int[][] {{11, 12}}, (x, i) -> x.baseMembers(i[0]),
                i -> i[0] == 11 ? 1 : -1);
    }

    static void promise28NoneAndMany() {
        DynamicLogicProver x = new DynamicLogicProver();
        Check.due("none", x.baseMembers(Check.parse(x, "0")), 0);
        Check.due("none", x.baseMembers(Check.parse(x, "[?1]0")), 0);
        Check.due("four letters", x.baseMembers(Check.parse(x, "p-q-r-s")), 4);
        Check.due("all of three programs", x.baseMembers(Check.parse(x, "[a]0-[b]0-[c]0")), 3);
        Check.due("thirty-nine steps and p", x.baseMembers(Check.parse(x, "[" + "a;".repeat(38) + "a]p")), 40);
    }

    // ---- 29

    static void promise29TheFormulasComeFirst() {
        // p is member 0 of the closure of [a*]p, and member 1 after 0 of that of ([a](p-0)-0)
        int[][] due = {{1, 0, -5, -5}, {-5, 0, -5, -5}, {-5, -5, 2, -5}, {-5, 1, -5, 4}};
        Edge.sweep(Fixture.PLAIN, "closureIndex", new int[][] {FORMULAS, FORMULAS}, (x, i) -> x.closureIndex(i[0], i[1]),
                i -> in(i[0]) && in(i[1]) ? due[i[0]][i[1]] : -1);
        Edge.sweep(Fixture.FRESH, "closureIndex", new int[][] {FORMULAS, FORMULAS}, (x, i) -> x.closureIndex(i[0], i[1]),
                i -> -1);
        Edge.sweep(Fixture.FULL, "closureIndex", new int[][] {{10, 11, 12}, {10, 11, 12}},
                (x, i) -> x.closureIndex(i[0], i[1]), i -> i[0] == 12 || i[1] == 12 ? -1 : 0);
    }

    static void promise29TheFirstAndTheLastMember() {
        DynamicLogicProver x = new DynamicLogicProver();
        int f = Check.parse(x, "p-".repeat(39) + "p");
        Check.due("the first", x.closureIndex(f, Check.parse(x, "p")), 0);
        Check.due("the last", x.closureIndex(f, f), 39);
        Check.due("no member", x.closureIndex(f, Check.parse(x, "q")), -5);
        Check.due("no member but of the same size", x.closureIndex(f, Check.parse(x, "p-q")), -5);
    }

    // ---- 30

    static void promise30RefusesFormulasAndMembersThatAreNone() {
        int[] members = {Edge.MIN, -1, 5, 6, 200, 1024, Edge.MAX};
        Edge.sweep(Fixture.PLAIN, "storeMember", new int[][] {FORMULAS, members}, (x, i) -> x.storeMember(i[0], i[1]),
                i -> in(i[0]) ? -5 : -1);
        for (int f = 0; f < 4; f++) {
            int[] first = {f, CLOSURES[f]};
            Edge.keeps(Fixture.PLAIN, "behind the last of " + f, x -> x.storeMember(first[0], first[1]), -5);
        }
        Edge.sweep(Fixture.FRESH, "storeMember", new int[][] {FORMULAS, {-1, 0, 1}}, (x, i) -> x.storeMember(i[0], i[1]),
                i -> -1);
    }

    static void promise30TheFirstAndTheLastMember() {
        String[][] due = {{"p", "[a][a*]p"}, {"p", "p"}, {"q", "[a][b]q"}, {"0", "([a](p-0)-0)"}};
        for (int f = 0; f < 4; f++) {
            for (int end = 0; end < 2; end++) {
                DynamicLogicProver x = Fixture.PLAIN.make();
                Check.due("number", x.storeMember(f, end * (CLOSURES[f] - 1)), 4);
                Check.dueText("member", Check.text(x, 4), due[f][end]);
                Check.due("characters", x.count(3), 2);
                x.dropFormula();
                Check.dueText("without it", Fixture.trace(x), Fixture.PLAIN.trace());
            }
        }
    }

    static void promise30TheFormulaThenTheMemberThenTheRoom() {
        int[] members = {Edge.MIN, -1, 0, 2, 3, 5, Edge.MAX};
        Edge.sweep(Fixture.FULL, "storeMember", new int[][] {{Edge.MIN, -1, 0, 3, 11, 12, Edge.MAX}, members},
                (x, i) -> x.storeMember(i[0], i[1]),
                i -> !Edge.isIn(i[0], 0, 11) ? -1 : Edge.isIn(i[1], 0, size(i[0]) - 1) ? -4 : -5);
    }

    private static int size(int f) {
        return f < 4 ? CLOSURES[f] : 1;
    }

    static void promise30TheTwelfthFormula() {
        DynamicLogicProver x = new DynamicLogicProver();
        int f = Check.parse(x, "[a*]p");
        for (int i = 1; i < 12; i++) {
            Check.due("number", x.storeMember(f, i % 3), i);
        }
        Check.due("the thirteenth", x.storeMember(f, 0), -4);
        Check.due("a member of the twelfth", x.storeMember(11, 0), -4);
        x.dropFormula();
        Check.due("room again", x.storeMember(f, 0), 11);
    }

    /** [P*]G has the member [P][P*]G, of size 3 and twice that of P and that of G. */
    static void promise30AMemberOfSize80AndOneOfSize81() {
        DynamicLogicProver x = new DynamicLogicProver();
        int eighty = Check.parse(x, "[(" + "a;".repeat(18) + "a*)*]p");
        Check.due("size", x.formulaSize(eighty), 41);
        int last = x.closureSize(eighty) - 1;
        Check.due("a member of size 80", x.storeMember(eighty, last), 1);
        Check.due("its size", x.formulaSize(1), 80);
        Check.due("its height", x.starHeight(1), 2);
        Check.due("is the last of its own closure", x.closureIndex(eighty, 1), last);
        int above = Check.parse(x, "[(" + "a;".repeat(18) + "a)*][a*]p");
        Check.due("size", x.formulaSize(above), 43);
        last = x.closureSize(above) - 1;
        Check.due("a member of size 81", x.storeMember(above, last), -5);
        Check.due("nothing is stored", x.count(2), 3);
        while (x.count(2) < 12) {
            Check.parse(x, "q");
        }
        Check.due("the size comes before the room", x.storeMember(above, last), -5);
        Check.due("then the room", x.storeMember(eighty, x.closureSize(eighty) - 1), -4);
        Check.due("the formula comes first", x.storeMember(12, last), -1);
    }

    // ---- 31

    static void promise31OnlyFormulasAndWorldsThatExist() {
        int[][] due = {{0, 1, 1, 3}, {0, 1, 0, 1}, {4, 1, 2, 3}, {2, 2, 2, 2}};
        Edge.sweep(Fixture.PLAIN, "trueMembers", new int[][] {FORMULAS, WORLDS}, (x, i) -> x.trueMembers(i[0], i[1]),
                i -> in(i[0]) && in(i[1]) ? due[i[0]][i[1]] : -1);
        Edge.sweep(Fixture.FRESH, "trueMembers", new int[][] {FORMULAS, WORLDS}, (x, i) -> x.trueMembers(i[0], i[1]), i -> -1);
        Edge.sweep(Fixture.FULL, "trueMembers", new int[][] {{11, 12}, {0, 3, 4}}, (x, i) -> x.trueMembers(i[0], i[1]),
                i -> i[0] == 12 || i[1] == 4 ? -1 : i[1] == 0 ? 1 : 0);
    }

    static void promise31NoneAndAll() {
        DynamicLogicProver x = new DynamicLogicProver();
        x.setWorlds(6);
        Check.due("none", x.trueMembers(Check.parse(x, "0"), 5), 0);
        Check.due("one of two", x.trueMembers(Check.parse(x, "1"), 5), 1);
        int f = Check.parse(x, "p-".repeat(39) + "p");
        Check.due("39 implications with one false letter", x.trueMembers(f, 5), 39);
        x.setLetter(5, 0, true);
        Check.due("all", x.trueMembers(f, 5), 40);
        Check.due("behind the last world", x.trueMembers(f, 6), -1);
    }
}
