/** The boundary cases of promises 10 to 17: the text buffer, parsing, sizes, texts and the order of formulas. */
public final class EdgeFormulaTest {
    private static final int[] FORMULAS = {Edge.MIN, -1, 0, 1, 2, 3, 4, 5, 12, Edge.MAX};

    public static void main(String[] args) throws ReflectiveOperationException {
        Edge.runAll(EdgeFormulaTest.class);
    }

    private static boolean stored(int f) {
        return Edge.isIn(f, 0, 3);
    }

    // ---- 10

    static void promise10TakesTheCodesFrom0To127() {
        DynamicLogicProver x = new DynamicLogicProver();
        for (int c = 0; c < 128; c++) {
            Check.due("code " + c, x.appendChar(c), c % 64 + 1);
            if (c == 63) {
                x.parseFormula();
            }
        }
    }

    static void promise10RefusesOtherCodes() {
        for (Fixture fixture : Fixture.values()) {
            // the full text buffer would refuse too, but the code is looked at first
            Edge.sweep(fixture, "appendChar", new int[][] {{Edge.MIN, -128, -1, 128, 129, 255, 256 + 'p', 65536 + 'p', Edge.MAX}},
                    (x, i) -> x.appendChar(i[0]), i -> -2);
        }
    }

    static void promise10HoldsAHundredCharacters() {
        DynamicLogicProver x = new DynamicLogicProver();
        for (int i = 1; i <= 100; i++) {
            Check.due("character " + i, x.appendChar('p'), i);
        }
        Check.due("one more", x.appendChar('p'), -4);
        Check.due("still a hundred", x.count(3), 100);
        Check.due("the fault is where it was", x.parseFormula(), -11);
        Check.due("empty again", x.appendChar('p'), 1);
        Edge.sweep(Fixture.FULL, "appendChar", new int[][] {{0, 'p', 127}}, (y, i) -> y.appendChar(i[0]), i -> -4);
    }

    // ---- 11: texts

    private static void fault(String text, int position) {
        DynamicLogicProver x = new DynamicLogicProver();
        Check.due("fault of '" + text + "'", Check.parse(x, text), -10 - position);
        Check.dueText("the state after '" + text + "'", Fixture.trace(x), Fixture.FRESH.trace());
    }

    private static void parsed(String text, String due) {
        DynamicLogicProver x = new DynamicLogicProver();
        Check.due("'" + text + "'", Check.parse(x, text), 0);
        Check.dueText("'" + text + "'", Check.text(x, 0), due);
        Check.due("the buffer after '" + text + "'", x.count(3), 0);
    }

    static void promise11TheEmptyText() {
        fault("", 0);
    }

    static void promise11EveryTextOfOneCharacter() {
        for (char c = 0; c < 128; c++) {
            if ("0pqrs".indexOf(c) >= 0) {
                parsed(String.valueOf(c), String.valueOf(c));
            } else if (c == '1') {
                parsed("1", "(0-0)");
            } else {
                // what opens a formula ends too early
                fault(String.valueOf(c), "![<(".indexOf(c) >= 0 ? 1 : 0);
            }
        }
    }

    static void promise11AFaultAtEveryPosition() {
        for (int i = 0; i < 100; i++) {
            String before = "p-".repeat(50).substring(0, i);
            fault(before + "#", i);
            fault(before + "#" + "p".repeat(99 - i), i);
        }
    }

    static void promise11ATextThatEndsTooEarly() {
        for (int i = 0; i <= 50; i++) {
            fault("p-".repeat(i), 2 * i);
        }
        for (String text : new String[] {"!", "(", "(p", "[", "[a", "[a]", "[?", "[?p", "[(", "[(a", "[(a)", "[a*", "[a;",
            "[a+", "<", "<a", "<a>", "p&", "p|", "p-", "(p-", "[a]!", "[a](", "!("}) {
            fault(text, text.length());
        }
    }

    /** A text, its fault position, and so on: at every place of the grammar something that cannot stand there. */
    static void promise11FaultsOfEveryForm() {
        Object[] rows = {"p0", 1, "pq", 1, "p!", 1, "p(", 1, "p[", 1, "p<", 1, "p*", 1, "p;", 1, "p+", 1, "p?", 1, "p]", 1,
            "p>", 1, "p)", 1, "p a", 1, "1p", 1, "0p", 1, "()", 1, "(p]", 2, "(p>", 2, "(a)", 1, "(p))", 3, "!)", 1, "!-p", 1,
            "!a", 1, "!?p", 1, "[]p", 1, "[p]p", 1, "[0]p", 1, "[!p]p", 1, "[[a]p]p", 1, "[a)p", 2, "[a>p", 2, "<a]p", 2,
            "[ab]p", 2, "[a]a", 3, "[a]-p", 3, "[a]*p", 3, "[a-b]p", 2, "[a&b]p", 2, "[a|b]p", 2, "[a?p]p", 2, "[a(b)]p", 2,
            "[*a]p", 1, "[;a]p", 1, "[+a]p", 1, "[a;;b]p", 3, "[a++b]p", 3, "[a;+b]p", 3, "[a;*]p", 3, "[a*b]p", 3,
            "[a**b]p", 4, "[?]p", 2, "[?a]p", 2, "[?p-q]p", 3, "[?p&q]p", 3, "[?p|q]p", 3, "[?(p-q]p", 6, "[(]p", 2, "[(a]p", 3,
            "[(a))]p", 4, "[(p)]p", 2, "[(?p)q]p", 5, "p&&q", 2, "p||q", 2, "p--q", 2, "p&-q", 2, "-p", 0, "&p", 0, "|p", 0,
            ")", 0, "]", 0, ">", 0, "?p", 0, "a", 0, "*", 0, "d", 0, "t", 0, "o", 0, "P", 0, "2", 0, "/", 0, "[d]p", 1,
            "[A]p", 1, "[`]p", 1, "p\n", 1, " p", 0};
        for (int i = 0; i < rows.length; i += 2) {
            fault((String) rows[i], (Integer) rows[i + 1]);
        }
    }

    /** Every text of at most three characters out of the signs and a stranger, against the plain grammar. */
    static void promise11EveryShortText() {
        String signs = "01ps!&|-[]<>()ac;+*?x";
        DynamicLogicProver x = new DynamicLogicProver();
        int calls = 0;
        int total = signs.length() * signs.length() * signs.length();
        for (int i = 0; i < total; i++) {
            String text = "" + signs.charAt(i % 21) + signs.charAt(i / 21 % 21) + signs.charAt(i / 441);
            for (String start : new String[] {text, "[" + text, "[a]" + text, "(" + text, "[?" + text + "]p"}) {
                shortText(x, start);
                calls += 10;
                if (calls > 480) {
                    x = new DynamicLogicProver();
                    calls = 0;
                }
            }
        }
    }

    private static void shortText(DynamicLogicProver x, String text) {
        Object due = Reference.parse(text);
        int got = Check.parse(x, text);
        Check.due("'" + text + "'", got, due instanceof Integer fault ? -10 - fault : 0);
        if (got == 0) {
            x.dropFormula();
        }
    }

    // ---- 11: limits

    private static void open(String start, String inside, String end, int fault) {
        DynamicLogicProver x = new DynamicLogicProver();
        String text = start + inside + end;
        if (fault < 0) {
            Check.due("'" + text + "'", Check.parse(x, text), 0);
        } else {
            Check.due("'" + text + "'", Check.parse(x, text), -10 - fault);
            Check.due("emptied after '" + text + "'", x.count(3), 0);
            Check.due("no formula of '" + text + "'", x.count(2), 0);
        }
    }

    static void promise11TwelveOpenPartsOfOneKind() {
        open("!".repeat(12), "p", "", -1);
        open("(".repeat(12), "p", ")".repeat(12), -1);
        open("[a]".repeat(12), "p", "", -1);
        open("<a>".repeat(12), "p", "", -1);
        open("[" + "(".repeat(11), "a", ")".repeat(11) + "]p", -1);
        open("<" + "(".repeat(11), "a", ")".repeat(11) + ">p", -1);
        open("[?".repeat(6), "p", "]p".repeat(6), -1);
    }

    static void promise11ThirteenOpenPartsOfOneKind() {
        open("!".repeat(13), "p", "", 12);
        open("(".repeat(13), "p", ")".repeat(13), 12);
        open("[a]".repeat(13), "p", "", 36);
        open("<a>".repeat(13), "p", "", 36);
        open("[" + "(".repeat(12), "a", ")".repeat(12) + "]p", 12);
        open("<" + "(".repeat(12), "a", ")".repeat(12) + ">p", 12);
        open("[?".repeat(6) + "!", "p", "]p".repeat(6), 12);
        open("[?".repeat(6) + "[", "a", "]p" + "]p".repeat(6), 12);
    }

    /** Eleven open parts of one kind, then one of each kind, and then one more of each kind. */
    static void promise11TheTwelfthAndTheThirteenthOfEveryKind() {
        String[][] last = {{"!", "p", ""}, {"(", "p", ")"}, {"[", "a", "]p"}, {"<", "a", ">p"}};
        for (String[] first : new String[][] {{"!", ""}, {"(", ")"}, {"[a]", ""}, {"<b>", ""}}) {
            for (String[] kind : last) {
                int twelfth = 11 * first[0].length();
                open(first[0].repeat(11) + kind[0], kind[1], kind[2] + first[1].repeat(11), -1);
                open(first[0].repeat(12) + kind[0], kind[1], kind[2] + first[1].repeat(12), twelfth + first[0].length());
            }
            int eleven = 11 * first[0].length();
            open(first[0].repeat(11) + "[", "?p", "]p" + first[1].repeat(11), eleven + 1);
            open(first[0].repeat(11) + "[", "(a)", "]p" + first[1].repeat(11), eleven + 1);
            int ten = 10 * first[0].length();
            open(first[0].repeat(10) + "[", "?p", "]p" + first[1].repeat(10), -1);
            open(first[0].repeat(10) + "[", "(a)", "]p" + first[1].repeat(10), -1);
            open(first[0].repeat(10) + "[?", "!p", "]p" + first[1].repeat(10), ten + 2);
        }
    }

    static void promise11AnOpenPartIsOpenToItsEnd() {
        // the box stays open in its body, the program in brackets does not
        open("[(a)]" + "!".repeat(11), "p", "", -1);
        open("[(a)]" + "!".repeat(12), "p", "", 16);
        open("[?p*;?q;(a)]" + "!".repeat(11), "p", "", -1);
        open("(p)&" + "(".repeat(12), "p", ")".repeat(12), -1);
        open("!p|".repeat(12), "!p", "", -1);
        open("!p-".repeat(15), "!p", "", -1);
        open("[" + "?p;".repeat(13), "a", "]p", -1);
        open("[" + "(a);".repeat(13), "a", "]p", -1);
        // a faulty one before does not leave anything open
        DynamicLogicProver x = new DynamicLogicProver();
        Check.due("thirteen", Check.parse(x, "!".repeat(13) + "p"), -22);
        Check.due("twelve afterwards", Check.parse(x, "!".repeat(12) + "p"), 0);
        Check.due("ends too early", Check.parse(x, "(".repeat(12)), -22);
        Check.due("twelve afterwards", Check.parse(x, "!".repeat(12) + "p"), 1);
    }

    static void promise11SizesAboutEighty() {
        String[] texts = {"p-".repeat(39) + "p", "p-".repeat(37) + "[a*]p-p", "p-".repeat(40) + "p", "p-".repeat(38) + "[a*]p-p",
            "p-".repeat(49) + "p", "[" + "a;".repeat(38) + "a]p", "[" + "a;".repeat(37) + "a*]p",
            "[" + "a;".repeat(39) + "a]p", "[" + "a;".repeat(38) + "a*]p", "1&".repeat(9) + "1&p", "1&".repeat(9) + "[a*]p"};
        int[] sizes = {79, 80, 81, 82, 99, 79, 78, 81, 80, 81, 76};
        for (int i = 0; i < texts.length; i++) {
            DynamicLogicProver x = new DynamicLogicProver();
            Check.due("size " + sizes[i], Check.parse(x, texts[i]), sizes[i] <= 80 ? 0 : -5);
            Check.due("the buffer after size " + sizes[i], x.count(3), 0);
            Check.due("formulas after size " + sizes[i], x.count(2), sizes[i] <= 80 ? 1 : 0);
            Check.due("size " + sizes[i], x.formulaSize(0), sizes[i] <= 80 ? sizes[i] : -1);
        }
    }

    /** The largest that a text can be: fifty times 1, of 395 parts. */
    static void promise11FarTooLarge() {
        for (String text : new String[] {"1&".repeat(49) + "1", "1|".repeat(49) + "1", "1-".repeat(49) + "1",
            "<a>p&".repeat(19) + "1", "[" + "?1;".repeat(32) + "a]1"}) {
            DynamicLogicProver x = new DynamicLogicProver();
            Check.due("'" + text + "'", Check.parse(x, text), -5);
            Check.dueText("the state after '" + text + "'", Fixture.trace(x), Fixture.FRESH.trace());
        }
    }

    static void promise11StarHeightsThreeAndFour() {
        String[] three = {"[a***]p", "[((a*)*)*]p", "[((a*;b)*+c)*]p", "[(?[(?[a*]p)*]p)*]p", "[a*][b**][c***]p", "<a***>p",
            "[?[a**]p*]p"};
        String[] four = {"[a****]p", "[(((a*)*)*)*]p", "[(((a*;b)*+c)*;a)*]p", "[(?[(?[(?[a*]p)*]p)*]p)*]p", "[a*][b****]p",
            "<a****>p", "[?[a***]p*]p", "p-q-[a****]p", "[a;a;(b+a****)]p"};
        for (String text : three) {
            DynamicLogicProver x = new DynamicLogicProver();
            Check.due("'" + text + "'", Check.parse(x, text), 0);
            Check.due("'" + text + "'", x.starHeight(0), 3);
        }
        for (String text : four) {
            DynamicLogicProver x = new DynamicLogicProver();
            Check.due("'" + text + "'", Check.parse(x, text), -5);
            Check.dueText("the state after '" + text + "'", Fixture.trace(x), Fixture.FRESH.trace());
        }
    }

    static void promise11ALongRowOfStars() {
        DynamicLogicProver x = new DynamicLogicProver();
        Check.due("96 stars", Check.parse(x, "[a" + "*".repeat(96) + "]p"), -5);
        Check.due("both too large and too deep", Check.parse(x, "[a****]" + "(" + "p-".repeat(40) + "p)"), -5);
        Check.due("98 stars and no end", Check.parse(x, "[a" + "*".repeat(98)), -110);
        Check.due("nothing stored", x.count(2), 0);
    }

    static void promise11TheFaultComesBeforeTheSizeAndTheHeight() {
        fault("p-".repeat(49) + "p)", 99);
        fault("p-".repeat(45) + "p#", 91);
        fault("[a****]p]", 8);
        fault("[a****]", 7);
    }

    static void promise11ARefusedTextIsGoneAndNothingElse() {
        DynamicLogicProver x = Fixture.PLAIN.make();
        Check.due("the text p& ends too early", x.parseFormula(), -12);
        Check.type(x, "p&");
        Check.dueText("with the text once more", Fixture.trace(x), Fixture.PLAIN.trace());
        DynamicLogicProver y = Fixture.PLAIN.make();
        Check.due("p&[a****]p", Check.parse(y, "[a****]p"), -5);
        Check.type(y, "p&");
        Check.dueText("with the text once more", Fixture.trace(y), Fixture.PLAIN.trace());
    }

    static void promise11TwelveFormulas() {
        DynamicLogicProver x = new DynamicLogicProver();
        for (int f = 0; f < 12; f++) {
            Check.due("formula " + f, Check.parse(x, "[a*]p"), f);
        }
        Check.due("the thirteenth", Check.parse(x, "q"), -4);
        Check.due("its text stays", x.count(3), 1);
        Check.due("twelve", x.count(2), 12);
        x.dropFormula();
        Check.due("now there is room", x.parseFormula(), 11);
        Check.dueText("the text that stayed", Check.text(x, 11), "q");
        Check.due("the text is gone", x.count(3), 0);
        Edge.keeps(Fixture.FULL, "parseFormula", y -> y.parseFormula(), -4);
    }

    static void promise11TwelveFormulasComeBeforeAllElse() {
        for (String text : new String[] {"", "#", "p&", "[a****]p", "p-".repeat(40) + "p", "p-".repeat(50), "!".repeat(13) + "p"}) {
            DynamicLogicProver x = new DynamicLogicProver();
            for (int f = 0; f < 12; f++) {
                Check.parse(x, "q");
            }
            Check.type(x, text);
            Check.due("'" + text + "'", x.parseFormula(), -4);
            Check.due("the text stays '" + text + "'", x.count(3), text.length());
            Check.due("formulas", x.count(2), 12);
        }
    }

    // ---- 12

    static void promise12NoFormula() {
        Edge.keeps(Fixture.FRESH, "dropFormula", x -> x.dropFormula(), -5);
        DynamicLogicProver x = Fixture.PLAIN.make();
        for (int f = 3; f >= 0; f--) {
            Check.due("drop", x.dropFormula(), f);
        }
        Check.due("none is left", x.dropFormula(), -5);
        Check.due("none", x.count(2), 0);
        Check.due("the text stays", x.count(3), 2);
        Check.due("the model stays", x.count(1), 4);
    }

    static void promise12TwelveFormulas() {
        DynamicLogicProver x = Fixture.FULL.make();
        for (int f = 11; f >= 0; f--) {
            Check.due("drop", x.dropFormula(), f);
            Check.due("formulas", x.count(2), f);
            Check.due("it is gone", x.formulaSize(f), -1);
            Check.due("the one before", x.formulaSize(f - 1), f == 0 ? -1 : f > 4 ? 1 : Fixture.SIZES[f - 1]);
        }
        Check.due("none is left", x.dropFormula(), -5);
        Check.due("the text is still there", x.parseFormula(), 0);
        Check.due("its size", x.formulaSize(0), 33);
    }

    // ---- 13 to 17

    static void promise13OnlyFormulasThatExist() {
        Edge.sweep(Fixture.PLAIN, "formulaSize", new int[][] {FORMULAS}, (x, i) -> x.formulaSize(i[0]),
                i -> stored(i[0]) ? Fixture.SIZES[i[0]] : -1);
        Edge.sweep(Fixture.FRESH, "formulaSize", new int[][] {FORMULAS}, (x, i) -> x.formulaSize(i[0]), i -> -1);
        Edge.sweep(Fixture.FULL, "formulaSize", new int[][] {{11, 12}}, (x, i) -> x.formulaSize(i[0]),
                i -> i[0] == 11 ? 1 : -1);
    }

    static void promise13TheSmallestAndTheLargestSize() {
        DynamicLogicProver x = new DynamicLogicProver();
        Check.due("0", x.formulaSize(Check.parse(x, "0")), 1);
        Check.due("1", x.formulaSize(Check.parse(x, "1")), 3);
        Check.due("80", x.formulaSize(Check.parse(x, "p-".repeat(37) + "[a*]p-p")), 80);
        Check.due("80", x.formulaSize(Check.parse(x, "[" + "a;".repeat(38) + "a*]p")), 80);
    }

    static void promise14OnlyFormulasThatExist() {
        Edge.sweep(Fixture.PLAIN, "starHeight", new int[][] {FORMULAS}, (x, i) -> x.starHeight(i[0]),
                i -> stored(i[0]) ? i[0] == 0 ? 1 : 0 : -1);
        Edge.sweep(Fixture.FRESH, "starHeight", new int[][] {FORMULAS}, (x, i) -> x.starHeight(i[0]), i -> -1);
        Edge.sweep(Fixture.FULL, "starHeight", new int[][] {{11, 12}}, (x, i) -> x.starHeight(i[0]),
                i -> i[0] == 11 ? 0 : -1);
    }

    static void promise14NoneToThree() {
        DynamicLogicProver x = new DynamicLogicProver();
        String[] texts = {"0", "[a;b+c]p", "[a*;b*;c*]p", "[a*]p-[b*]p", "[a*][b*][c*]p", "[?[a*]p;b*]p", "[a**]p",
            "[(?[a*]p)*]p", "[(a;(b+c*))*]p", "[a***]p", "[a][b][(?(p-[(c*)*]q))*]p"};
        int[] due = {0, 0, 1, 1, 1, 1, 2, 2, 2, 3, 3};
        for (int i = 0; i < texts.length; i++) {
            Check.due(texts[i], x.starHeight(Check.parse(x, texts[i])), due[i]);
        }
    }

    static void promise15OnlyFormulasThatExist() {
        Edge.sweep(Fixture.PLAIN, "textLength", new int[][] {FORMULAS}, (x, i) -> x.textLength(i[0]),
                i -> stored(i[0]) ? Fixture.TEXTS[i[0]].length() : -1);
        Edge.sweep(Fixture.FRESH, "textLength", new int[][] {FORMULAS}, (x, i) -> x.textLength(i[0]), i -> -1);
        Edge.sweep(Fixture.FULL, "textLength", new int[][] {{11, 12}}, (x, i) -> x.textLength(i[0]),
                i -> i[0] == 11 ? 1 : -1);
    }

    static void promise15TheShortestAndTheLongestText() {
        DynamicLogicProver x = new DynamicLogicProver();
        Check.due("0", x.textLength(Check.parse(x, "0")), 1);
        // 39 implications of 40 letters are the longest text of a formula of size 79
        int f = Check.parse(x, "p-".repeat(39) + "p");
        Check.due("39 implications", x.textLength(f), 39 * 3 + 40);
        Check.due("the last character", x.textChar(f, 156), ')');
        Check.due("behind it", x.textChar(f, 157), -5);
        Check.due("size 80", x.textLength(Check.parse(x, "p-".repeat(37) + "[a*]p-p")), 38 * 3 + 38 + 5);
    }

    static void promise16TheFormulaComesFirst() {
        int[] indices = {Edge.MIN, -1, 0, 1, 4, 5, 7, 8, 11, 12, 100, Edge.MAX};
        Edge.sweep(Fixture.PLAIN, "textChar", new int[][] {FORMULAS, indices}, (x, i) -> x.textChar(i[0], i[1]),
                i -> !stored(i[0]) ? -1
                        : Edge.isIn(i[1], 0, Fixture.TEXTS[i[0]].length() - 1) ? Fixture.TEXTS[i[0]].charAt(i[1]) : -5);
        Edge.sweep(Fixture.FRESH, "textChar", new int[][] {FORMULAS, indices}, (x, i) -> x.textChar(i[0], i[1]), i -> -1);
        Edge.sweep(Fixture.FULL, "textChar", new int[][] {{11, 12}, {-1, 0, 1}}, (x, i) -> x.textChar(i[0], i[1]),
                i -> i[0] == 12 ? -1 : i[1] == 0 ? 'q' : -5);
    }

    static void promise17OnlyFormulasThatExist() {
        int[] rank = {1, 0, 2, 3};
        Edge.sweep(Fixture.PLAIN, "compareFormulas", new int[][] {FORMULAS, FORMULAS}, (x, i) -> x.compareFormulas(i[0], i[1]),
                i -> !stored(i[0]) || !stored(i[1]) ? -1 : 1 + Integer.compare(rank[i[0]], rank[i[1]]));
        Edge.sweep(Fixture.FRESH, "compareFormulas", new int[][] {FORMULAS, FORMULAS},
                (x, i) -> x.compareFormulas(i[0], i[1]), i -> -1);
        Edge.sweep(Fixture.FULL, "compareFormulas", new int[][] {{4, 11, 12}, {4, 11, 12}},
                (x, i) -> x.compareFormulas(i[0], i[1]), i -> i[0] == 12 || i[1] == 12 ? -1 : 1);
    }

    static void promise17FormulasOfSize80ThatDifferAtTheirEnds() {
        DynamicLogicProver x = new DynamicLogicProver();
        int f = Check.parse(x, "p-".repeat(37) + "[a*]p-p");
        int g = Check.parse(x, "p-".repeat(37) + "[a*]p-q");
        int h = Check.parse(x, "0-" + "p-".repeat(36) + "[a*]p-s");
        Check.due("the end", x.compareFormulas(f, g), 0);
        Check.due("the end", x.compareFormulas(g, f), 2);
        Check.due("the start", x.compareFormulas(h, f), 0);
        Check.due("itself", x.compareFormulas(g, g), 1);
        x.dropFormula();
        Check.due("the same text twice", x.compareFormulas(Check.parse(x, "p-".repeat(37) + "[a*]p-p"), f), 1);
    }

    /** A formula of fewer parts may have the longer text: the size comes first. */
    static void promise17TheSizeComesBeforeTheText() {
        DynamicLogicProver x = new DynamicLogicProver();
        int brackets = Check.parse(x, "p-q-r");
        int boxes = Check.parse(x, "[a*][a]p");
        Check.due("lengths", x.textLength(brackets), 9);
        Check.due("lengths", x.textLength(boxes), 8);
        Check.due("five parts before six", x.compareFormulas(brackets, boxes), 0);
        int s = Check.parse(x, "s");
        Check.due("one part before five", x.compareFormulas(s, brackets), 0);
    }
}
