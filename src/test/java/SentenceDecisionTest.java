/**
 * Sentences of the document that a further reading found without a test of their own, for promises 39 to 51: search,
 * decision, snapshot and buffers. The comment at a test is the sentence.
 */
public final class SentenceDecisionTest {
    public static void main(String[] args) throws ReflectiveOperationException {
        Edge.runAll(SentenceDecisionTest.class);
    }

    // ---- 39 and 40

    /** The models of a model space in which a formula is false in world 0: those that loadModel makes of its codes. */
    static void promise39TheModelsOfLoadModel() {
        int[][] spaces = {{1, 4, 2}, {2, 1, 1}, {3, 2, 0}, {6, 1, 0}, {1, 3, 3}};
        for (String text : new String[] {"[a]p-p", "<a*>q|!p", "p&[b]0", "r-s"}) {
            for (int[] space : spaces) {
                DynamicLogicProver x = new DynamicLogicProver();
                int f = Check.parse(x, text);
                int total = 0;
                int first = -5;
                int codes = 1 << space[0] * space[1] + space[0] * space[0] * space[2];
                for (int code = 0; code < codes; code++) {
                    x.loadModel(space[0], space[1], space[2], code);
                    if (x.holds(f, 0) == 0) {
                        total++;
                        first = first < 0 ? code : first;
                    }
                }
                Check.due("39: " + text, x.counterModels(f, space[0], space[1], space[2]), total);
                Check.due("40: " + text, x.firstCounterModel(f, space[0], space[1], space[2]), first);
            }
        }
    }

    /** False in world 0: the other worlds are no matter. */
    static void promise40WorldZero() {
        DynamicLogicProver x = new DynamicLogicProver();
        int not = Check.parse(x, "!p");
        int box = Check.parse(x, "[a]!p");
        for (int worlds = 1; worlds <= 6; worlds++) {
            Check.due("p in world 0", x.firstCounterModel(not, worlds, 1, 0), 1);
            Check.due("half of the models", x.counterModels(not, worlds, 1, 0), 1 << worlds - 1);
        }
        Check.due("p in 0 and a from 0 to 0", x.firstCounterModel(box, 2, 1, 1), 5);
        // of 16 models of a, one has no p; p in one of two worlds leaves a half, and p in both three quarters
        Check.due("models", x.counterModels(box, 2, 1, 1), 8 + 8 + 12);
    }

    /** Letters from k on are false everywhere, and atomic programs from m on have no transitions. */
    static void promise39LettersAndProgramsOutsideTheSpace() {
        DynamicLogicProver x = new DynamicLogicProver();
        for (int k = 0; k <= 4; k++) {
            for (int letter = 0; letter < 4; letter++) {
                int f = Check.parse(x, "pqrs".substring(letter, letter + 1));
                Check.due("letter " + letter + " of " + k, x.counterModels(f, 1, k, 0), letter < k ? 1 << k - 1 : 1 << k);
                x.dropFormula();
            }
        }
        for (int m = 0; m <= 3; m++) {
            for (int program = 0; program < 3; program++) {
                int f = Check.parse(x, "[" + "abc".charAt(program) + "]0");
                Check.due("program " + program + " of " + m, x.counterModels(f, 1, 0, m), program < m ? 1 << m - 1 : 0);
                Check.due("program " + program + " of " + m, x.firstCounterModel(f, 1, 0, m), program < m ? 1 << program : -5);
                x.dropFormula();
            }
        }
    }

    // ---- 41 to 43

    /** True in all worlds of all models, with any number of worlds: these need a row of up to eight worlds. */
    static void promise41ModelsOfMoreWorldsThanAnObjectHas() {
        for (int n = 1; n <= 8; n++) {
            // a leads on n - 1 times, but not n times, so the worlds on the way all differ
            String less = n == 1 ? "0" : "[" + "a;".repeat(n - 2) + "a]0";
            String text = "[" + "a;".repeat(n - 1) + "a]0&!" + less;
            DynamicLogicProver x = new DynamicLogicProver();
            int f = Check.parse(x, text);
            int g = Check.parse(x, "!(" + text + ")");
            Check.due("bases of " + text, x.baseMembers(f), n);
            Check.due("41: !" + text, x.isValid(g), 0);
            Check.due("42: " + text, x.isSatisfiable(f), 1);
            Check.due("41: " + text, x.isValid(f), 0);
            Check.due("42: !" + text, x.isSatisfiable(g), 1);
            x.setWorlds(Math.min(n, 6));
            for (int i = 0; i + 1 < n && i < 5; i++) {
                x.setTransition(0, i, i + 1, true);
            }
            Check.due("a model of " + n, x.holds(f, 0), n <= 6 ? 1 : 0);
        }
    }

    /** A formula is satisfiable if it is true in some world of some model, just if its negation is not valid. */
    static void promise42SatisfiableAndNotValid() {
        String[] texts = {"p", "0", "1", "[a]p", "<a>p&[a]!p", "[a*]p&![a;a]p", "[(a+b)*]p-[b]p", "<(?p;a)*>q&!q&!p", "[?p]q&p&!q",
            "[a*]<a>p&[a*]<a>!p", "[a*](p-<a>!p)&[a*](!p-<a>p)&[a*]p", "[(a;a)*]p&!p", "<a*>p&!p&[a]!p&[a*](p-0)"};
        for (String text : texts) {
            DynamicLogicProver x = new DynamicLogicProver();
            int f = Check.parse(x, text);
            int g = Check.parse(x, "!(" + text + ")");
            Check.due(text + " is decided", x.isSatisfiable(f) >= 0 ? 1 : 0, 1);
            Check.due(text, x.isSatisfiable(f), 1 - x.isValid(g));
            Check.due("!(" + text + ")", x.isSatisfiable(g), 1 - x.isValid(f));
        }
    }

    /** The current model is no matter. */
    static void promise41WhateverTheModelIs() {
        for (Fixture fixture : new Fixture[] {Fixture.FRESH, Fixture.PLAIN}) {
            DynamicLogicProver x = fixture.make();
            // the text that waits is none
            x.parseFormula();
            int valid = Check.parse(x, "[a*]p-[a]p");
            int open = Check.parse(x, "p-[a]p");
            int never = Check.parse(x, "p&!p");
            for (int worlds = 1; worlds <= 6; worlds++) {
                x.setWorlds(worlds);
                Check.due("valid", x.isValid(valid) * 2 + x.isSatisfiable(valid), 3);
                Check.due("open", x.isValid(open) * 2 + x.isSatisfiable(open), 1);
                Check.due("never", x.isValid(never) * 2 + x.isSatisfiable(never), 0);
            }
        }
    }

    /** Whether the implication from one formula to another one is valid. */
    static void promise43AsTheImplication() {
        String[] texts = {"p", "0", "[a]p", "[a*]p", "[a;a]p", "<a>p", "[?q]p", "p&q"};
        for (String first : texts) {
            for (String second : texts) {
                DynamicLogicProver x = new DynamicLogicProver();
                int f = Check.parse(x, first);
                int g = Check.parse(x, second);
                int whole = Check.parse(x, "(" + first + ")-(" + second + ")");
                Check.isTrue("decided", x.isValid(whole) >= 0);
                Check.due(first + " to " + second, x.entails(f, g), x.isValid(whole));
            }
        }
    }

    // ---- 44 to 47

    /** In the order of the numbers of the formulas, with consecutive elements. */
    static void promise44TheOrderOfTheNumbers() {
        DynamicLogicProver x = new DynamicLogicProver();
        x.setWorlds(3);
        x.setLetter(1, 3, true);
        Check.parse(x, "[a]s|1");
        Check.parse(x, "s");
        Check.parse(x, "!s");
        x.allocate(2, 1, 5);
        long[] cells = {0, 7, 2, 5, 0};
        for (int i = 0; i < 5; i++) {
            x.store(2, i, cells[i]);
        }
        Check.due("from 1 on", x.compare(2, 1), -5);
        Check.due("from 0 on", x.compare(2, 0), 0);
        x.store(2, 3, 4);
        Check.due("the third", x.compare(2, 1), 2);
        x.store(2, 2, 4);
        Check.due("the second before it", x.compare(2, 1), 1);
        x.setLetter(1, 3, false);
        x.setLetter(2, 3, true);
        x.store(2, 3, 3);
        Check.due("the model of the moment", x.compare(2, 1), -5);
    }

    /** In place of an earlier snapshot. */
    static void promise45InPlaceOfAnEarlierOne() {
        DynamicLogicProver x = Fixture.PLAIN.make();
        Check.due("four formulas", x.save(), 4);
        x.setWorlds(1);
        while (x.dropFormula() >= 0) {
            x.setWorlds(1);
        }
        Check.due("the later one", x.restore(), 4);
        Check.due("worlds", x.count(0), 4);
        for (int f = 0; f < 4; f++) {
            Check.dueText("formula " + f, Check.text(x, f), Fixture.TEXTS[f]);
            Check.due("where it is true", x.extension(f), Fixture.EXTENSIONS[f]);
        }
    }

    /** 1 for all transitions: of all atomic programs. */
    static void promise47TransitionsOfAllPrograms() {
        DynamicLogicProver x = new DynamicLogicProver();
        x.setWorlds(2);
        for (int program = 0; program < 3; program++) {
            x.setTransition(program, 0, 1, true);
            Check.due("one more", x.count(1), program + 1);
        }
        x.setTransition(1, 0, 1, true);
        Check.due("one that was there", x.count(1), 3);
        x.setTransition(1, 0, 1, false);
        Check.due("one less", x.count(1), 2);
        x.setTransition(1, 0, 1, false);
        Check.due("one that was not there", x.count(1), 2);
    }

    // ---- 48 to 51

    /** Replaces a buffer by a new array: of another type and length than the one before, with zeros only. */
    static void promise48ANewArrayOfAnyTypeAfterAnyOther() {
        for (int before = -1; before < 5; before++) {
            for (int after = 0; after < 5; after++) {
                DynamicLogicProver x = new DynamicLogicProver();
                x.allocate(4, before, 7);
                for (int i = 0; i < 7; i++) {
                    x.store(4, i, -1);
                }
                Check.due("a new one", x.allocate(4, after, 9), 1);
                for (int i = 0; i < 9; i++) {
                    Check.due("zero", x.load(4, i), 0);
                }
                x.store(4, 8, 1L << 40 | 300);
                long[] due = {44, 300, 300, 1L << 40 | 300, 1};
                Check.due("the new type", x.load(4, 8), due[after]);
                Check.due("the new length", x.load(4, 9), Edge.NO_VALUE);
            }
        }
    }

    /** Sets an element of a buffer. */
    static void promise49ChangesOneElementAlone() {
        long[][] cells = {{8, 10, 13, 9}, {7, -7, 70000}, {1, 0}, {1L << 40}, {-128}};
        for (int buffer = 0; buffer < 5; buffer++) {
            for (int i = 0; i < cells[buffer].length; i++) {
                DynamicLogicProver x = Fixture.PLAIN.make();
                Check.due("store", x.store(buffer, i, 1 - cells[buffer][i] % 2), 1);
                Check.due("back", x.store(buffer, i, cells[buffer][i]), 1);
                Check.dueText("as before", Fixture.trace(x), Fixture.PLAIN.trace());
            }
        }
    }

    /** Copies elements from one buffer to another by System.arraycopy. */
    static void promise51ChangesTheRangeAlone() {
        DynamicLogicProver x = Fixture.PLAIN.make();
        x.allocate(5, 2, 4);
        for (int i = 0; i < 4; i++) {
            x.store(5, i, 100 + i);
        }
        Check.due("two elements", x.copy(1, 1, 5, 1, 2), 2);
        long[] due = {100, -7, 70000, 103};
        for (int i = 0; i < 4; i++) {
            Check.due("element " + i, x.load(5, i), due[i]);
        }
        x.allocate(5, -1, 0);
        Check.dueText("all but the destination", Fixture.trace(x), Fixture.PLAIN.trace());
    }

    /** By System.arraycopy: overlapping ranges of one buffer, as if they were copied over another array. */
    static void promise51OverlappingRanges() {
        for (int from = 0; from <= 6; from++) {
            for (int to = 0; to <= 6; to++) {
                for (int count = 0; count <= 6 - Math.max(from, to); count++) {
                    DynamicLogicProver x = new DynamicLogicProver();
                    x.allocate(3, 0, 6);
                    byte[] row = {1, 2, 3, 4, 5, 6};
                    for (int i = 0; i < 6; i++) {
                        x.store(3, i, row[i]);
                    }
                    System.arraycopy(row, from, row, to, count);
                    Check.due("copy", x.copy(3, from, 3, to, count), count);
                    for (int i = 0; i < 6; i++) {
                        Check.due("copy " + from + " " + to + " " + count + " at " + i, x.load(3, i), row[i]);
                    }
                }
            }
        }
    }
}
