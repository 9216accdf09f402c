import java.lang.reflect.Method;
import java.util.Set;
import java.util.TreeSet;

/** What the document says of the whole: its examples, its 512 calls, and that every promise has tests of its edges. */
public final class EdgePromisesTest {
    private static final Class<?>[] TESTS = {EdgeModelTest.class, EdgeFormulaTest.class, EdgeTruthTest.class, EdgeRunTest.class,
        EdgeClosureTest.class, EdgeFilterTest.class, EdgeUnfoldTest.class, EdgeDecisionTest.class, EdgeBufferTest.class};

    public static void main(String[] args) throws ReflectiveOperationException {
        Edge.runAll(EdgePromisesTest.class);
    }

    /** A promise of the document without a test named by its number is an omission. */
    static void promise01EveryPromiseHasATest() {
        Set<Integer> tested = new TreeSet<>();
        for (Class<?> tests : TESTS) {
            for (Method m : Edge.testsOf(tests)) {
                tested.add(Integer.parseInt(m.getName().substring(7, 9)));
            }
        }
        for (int promise = 1; promise <= 51; promise++) {
            Check.isTrue("promise " + promise + " has a test", tested.contains(promise));
        }
        Check.due("tested promises", tested.size(), 51);
    }

    static void promise01AnObjectServes512Calls() {
        DynamicLogicProver x = new DynamicLogicProver();
        x.setWorlds(6);
        for (int call = 2; call <= 512; call++) {
            Check.due("call " + call, x.setTransition(2, 5, 5, call % 2 == 0), call > 2 ? call % 2 : 0);
        }
    }

    static void promise19TheFirstExample() {
        DynamicLogicProver x = new DynamicLogicProver();
        Check.due("setWorlds", x.setWorlds(3), 1);
        Check.due("setTransition", x.setTransition(0, 0, 1, true), 0);
        Check.due("setTransition", x.setTransition(0, 1, 2, true), 0);
        Check.due("setLetter", x.setLetter(2, 0, true), 0);
        Check.due("appendChar", Check.type(x, "<a*>p"), 5);
        Check.due("parseFormula", x.parseFormula(), 0);
        Check.due("extension", x.extension(0), 7);
        Check.due("closureSize", x.closureSize(0), 6);
        Check.due("isValid", x.isValid(0), 0);
        Check.due("isSatisfiable", x.isSatisfiable(0), 1);
    }

    static void promise37TheSecondExample() {
        DynamicLogicProver x = new DynamicLogicProver();
        Check.due("appendChar", Check.type(x, "[a*]p"), 5);
        Check.due("parseFormula", x.parseFormula(), 0);
        Check.due("unfold", x.unfold(0), 1);
        Check.due("textLength", x.textLength(1), 20);
        Check.due("textChar", x.textChar(1, 0), 40);
        Check.due("entails", x.entails(0, 1), 1);
        Check.due("entails", x.entails(1, 0), 1);
        Check.due("firstCounterModel", x.firstCounterModel(0, 2, 1, 1), 0);
        Check.due("baseMembers", x.baseMembers(0), 2);
    }

    static void promise11TheThirdExample() {
        DynamicLogicProver x = new DynamicLogicProver();
        Check.due("appendChar", Check.type(x, "[a;]p"), 5);
        Check.due("parseFormula", x.parseFormula(), -13);
        Check.due("appendChar", Check.type(x, "[?p]p"), 5);
        Check.due("parseFormula", x.parseFormula(), 0);
        Check.due("isValid", x.isValid(0), 1);
    }
}
