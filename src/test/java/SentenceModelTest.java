import java.lang.reflect.Constructor;
import java.lang.reflect.Field;
import java.lang.reflect.Method;
import java.lang.reflect.Modifier;
import java.util.Set;
import java.util.TreeSet;

/**
 * Sentences of the document that a further reading found without a test of their own, for promises 1 to 9: the face,
 * the model and bisimulation. The comment at a test is the sentence.
 */
public final class SentenceModelTest {
    private static final String[] FACE = {"int setWorlds int", "int setLetter int int boolean",
        "int setTransition int int int boolean", "int letters int", "int successors int int", "int loadModel int int int int",
        "int bisimulationClasses", "int bisimulationClass int", "int appendChar int", "int parseFormula", "int dropFormula",
        "int formulaSize int", "int starHeight int", "int textLength int", "int textChar int int", "int compareFormulas int int",
        "int holds int int", "int extension int", "int distinguish int int", "int reach int int", "int runSteps int int int",
        "int runStep int int int int int", "long runCount int int int int", "int iterations int int int", "int cycles int",
        "int closureSize int", "int baseMembers int", "int closureIndex int int", "int storeMember int int",
        "int trueMembers int int", "int filterClasses int", "int filterClass int int", "int filterSuccessors int int int",
        "int filterHolds int int int", "int applyFilter int", "int unfold int", "int unroll int int",
        "int counterModels int int int int", "int firstCounterModel int int int int", "int isValid int", "int isSatisfiable int",
        "int entails int int", "int compare int int", "int save", "int restore", "int count int", "int allocate int int int",
        "int store int int long", "long load int int", "int copy int int int int int"};
    private static final String[] CONSTANTS = {"int INVALID_INDEX -1", "int OUT_OF_RANGE -2", "int WRONG_STATE -3",
        "int LIMIT_REACHED -4", "int NO_RESULT -5", "int NULL_BUFFER -11", "int WRONG_TYPE -12", "int OUT_OF_BOUNDS -13",
        "int NEGATIVE_LENGTH -14", "long NO_VALUE -9223372036854775808"};

    public static void main(String[] args) throws ReflectiveOperationException {
        Edge.runAll(SentenceModelTest.class);
    }

    // ---- 1

    /** The public face: the class, its constructor and its methods, and nothing else that is not private. */
    static void promise01TheMethodsOfThePublicFace() {
        Class<?> face = DynamicLogicProver.class;
        Check.isTrue("public and final", Modifier.isPublic(face.getModifiers()) && Modifier.isFinal(face.getModifiers()));
        Constructor<?>[] constructors = face.getDeclaredConstructors();
        Check.due("constructors", constructors.length, 1);
        Check.isTrue("a public one", Modifier.isPublic(constructors[0].getModifiers()));
        Check.due("without parameters", constructors[0].getParameterCount(), 0);
        Set<String> methods = new TreeSet<>();
        for (Method m : face.getDeclaredMethods()) {
            if (Modifier.isPublic(m.getModifiers())) {
                Check.isTrue("not static: " + m.getName(), !Modifier.isStatic(m.getModifiers()));
                methods.add(signature(m));
            } else {
                Check.isTrue("private: " + m.getName(), Modifier.isPrivate(m.getModifiers()) || m.isSynthetic());
            }
        }
        Check.dueText("methods", methods.toString(), new TreeSet<>(Set.of(FACE)).toString());
    }

    private static String signature(Method m) {
        StringBuilder all = new StringBuilder(m.getReturnType() + " " + m.getName());
        for (Class<?> type : m.getParameterTypes()) {
            all.append(' ').append(type);
        }
        return all.toString();
    }

    /** The constants. */
    static void promise01TheConstantsOfThePublicFace() throws ReflectiveOperationException {
        Set<String> constants = new TreeSet<>();
        for (Field f : DynamicLogicProver.class.getDeclaredFields()) {
            if (Modifier.isPublic(f.getModifiers())) {
                Check.isTrue("static and final: " + f.getName(),
                        Modifier.isStatic(f.getModifiers()) && Modifier.isFinal(f.getModifiers()));
                constants.add(f.getType() + " " + f.getName() + " " + f.get(null));
            } else {
                Check.isTrue("private: " + f.getName(), Modifier.isPrivate(f.getModifiers()) || f.isSynthetic());
            }
        }
        Check.dueText("constants", constants.toString(), new TreeSet<>(Set.of(CONSTANTS)).toString());
    }

    // ---- 3 to 7

    /** There are 4 letters, numbered 0 to 3 and written p, q, r and s. */
    static void promise03LettersAreWrittenPQRS() {
        for (int letter = 0; letter < 4; letter++) {
            DynamicLogicProver x = new DynamicLogicProver();
            x.setWorlds(3);
            x.setLetter(1, letter, true);
            for (int sign = 0; sign < 4; sign++) {
                int f = Check.parse(x, "pqrs".substring(sign, sign + 1));
                Check.due("letter " + letter + " as " + "pqrs".charAt(sign), x.extension(f), sign == letter ? 2 : 0);
            }
        }
    }

    /** Sets whether a letter is true in a world. */
    static void promise03ChangesOneLetterOfOneWorldAlone() {
        for (int world = 0; world < 4; world++) {
            for (int letter = 0; letter < 4; letter++) {
                boolean before = (Fixture.LETTERS[world] >> letter & 1) == 1;
                DynamicLogicProver x = Fixture.PLAIN.make();
                Check.due("before", x.setLetter(world, letter, !before), before ? 1 : 0);
                Check.due("changed", x.letters(world), Fixture.LETTERS[world] ^ 1 << letter);
                Check.due("changed back", x.setLetter(world, letter, before), before ? 0 : 1);
                Check.dueText("as before", Fixture.trace(x), Fixture.PLAIN.trace());
            }
        }
    }

    /** 3 atomic programs, numbered 0 to 2 and written a, b and c. */
    static void promise04ProgramsAreWrittenABC() {
        for (int program = 0; program < 3; program++) {
            DynamicLogicProver x = new DynamicLogicProver();
            x.setWorlds(3);
            x.setTransition(program, 1, 2, true);
            for (int sign = 0; sign < 3; sign++) {
                int f = Check.parse(x, "[" + "abc".charAt(sign) + "]0");
                Check.due("program " + program + " as " + "abc".charAt(sign), x.reach(f, 1), sign == program ? 4 : 0);
            }
        }
    }

    /** Every atomic program has a set of transitions, which are ordered pairs of worlds. */
    static void promise04TransitionsAreOrderedPairs() {
        DynamicLogicProver x = new DynamicLogicProver();
        x.setWorlds(2);
        x.setTransition(0, 0, 1, true);
        Check.due("from 0 to 1", x.successors(0, 0), 2);
        Check.due("not from 1 to 0", x.successors(0, 1), 0);
        Check.due("the other way is another one", x.setTransition(0, 1, 0, true), 0);
        Check.due("two transitions", x.count(1), 2);
        Check.due("delete the first", x.setTransition(0, 0, 1, false), 1);
        Check.due("the other stays", x.successors(0, 1), 1);
    }

    /** Adds or deletes a transition. */
    static void promise04ChangesOneTransitionAlone() {
        for (int i = 0; i < 48; i++) {
            int program = i / 16;
            int from = i / 4 % 4;
            int to = i % 4;
            boolean before = (Fixture.MOVES[program][from] >> to & 1) == 1;
            DynamicLogicProver x = Fixture.PLAIN.make();
            Check.due("before", x.setTransition(program, from, to, !before), before ? 1 : 0);
            Check.due("changed", x.successors(program, from), Fixture.MOVES[program][from] ^ 1 << to);
            Check.due("number", x.count(1), before ? 3 : 5);
            Check.due("changed back", x.setTransition(program, from, to, before), before ? 0 : 1);
            Check.dueText("as before", Fixture.trace(x), Fixture.PLAIN.trace());
        }
    }

    /** Replaces the current model by a model of a model space. */
    static void promise07ReplacesTheModelAlone() {
        DynamicLogicProver x = Fixture.FULL.make();
        DynamicLogicProver y = Fixture.FULL.make();
        Check.due("four worlds", x.loadModel(4, 2, 0, 255), 4);
        x.setWorlds(4);
        y.setWorlds(4);
        Check.dueText("all but the model", Fixture.trace(x), Fixture.trace(y));
    }

    // ---- 8 and 9

    /** Either both worlds or none of them have a transition to a world of this class: how many is no matter. */
    static void promise08HowManyTransitionsIsNoMatter() {
        DynamicLogicProver x = new DynamicLogicProver();
        x.setWorlds(5);
        x.setTransition(1, 0, 2, true);
        x.setTransition(1, 0, 3, true);
        x.setTransition(1, 0, 4, true);
        x.setTransition(1, 1, 4, true);
        Check.due("two classes", x.bisimulationClasses(), 2);
        Check.due("1 is like 0", x.bisimulationClass(1), 0);
        Check.due("2, 3 and 4 are alike", x.bisimulationClass(2) * 100 + x.bisimulationClass(3) * 10 + x.bisimulationClass(4), 111);
        x.setLetter(3, 2, true);
        Check.due("3 is in a class of its own", x.bisimulationClasses(), 4);
        Check.due("so 1 is not like 0", x.bisimulationClass(1), 1);
    }

    /** For every atomic program and every class: worlds with the same sequences of steps may differ. */
    static void promise08TheChoiceMayComeEarlierOrLater() {
        // a;(b+c) from world 0, and a;b+a;c from world 1; both end in world 5
        DynamicLogicProver x = new DynamicLogicProver();
        x.setWorlds(6);
        x.setTransition(0, 0, 2, true);
        x.setTransition(1, 2, 5, true);
        x.setTransition(2, 2, 5, true);
        x.setTransition(0, 1, 3, true);
        x.setTransition(0, 1, 4, true);
        x.setTransition(1, 3, 5, true);
        x.setTransition(2, 4, 5, true);
        Check.due("all differ", x.bisimulationClasses(), 6);
        x.setTransition(2, 3, 5, true);
        x.setTransition(1, 4, 5, true);
        Check.due("now three classes", x.bisimulationClasses(), 3);
        Check.due("1 is like 0", x.bisimulationClass(1), 0);
        Check.due("4 is like 2", x.bisimulationClass(4), 1);
        Check.due("the end", x.bisimulationClass(5), 2);
    }

    /** The coarsest partition: worlds are not parted by their own loops and by loops in pairs. */
    static void promise09TheCoarsestPartition() {
        DynamicLogicProver x = new DynamicLogicProver();
        x.setWorlds(6);
        x.setTransition(0, 0, 0, true);
        x.setTransition(0, 1, 2, true);
        x.setTransition(0, 2, 1, true);
        x.setTransition(0, 3, 0, true);
        x.setTransition(0, 4, 3, true);
        x.setTransition(0, 4, 2, true);
        int[] due = {0, 0, 0, 0, 0, 1};
        for (int world = 0; world < 6; world++) {
            Check.due("class of " + world, x.bisimulationClass(world), due[world]);
        }
        Check.due("those that go on for ever and the one that stops", x.bisimulationClasses(), 2);
    }
}
