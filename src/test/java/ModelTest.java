/** Promises 1 to 9: a new object, the model, model spaces and bisimulation. */
public final class ModelTest {
    public static void main(String[] args) {
        newObject();
        setWorlds();
        setLetter();
        setTransition();
        loadModel();
        bisimulation();
        Check.finish();
    }

    private static void newObject() {
        DynamicLogicProver x = new DynamicLogicProver();
        Check.due("1: worlds", x.count(0), 1);
        Check.due("1: transitions", x.count(1), 0);
        Check.due("1: formulas", x.count(2), 0);
        Check.due("1: text", x.count(3), 0);
        Check.due("1: letters", x.letters(0), 0);
        for (int program = 0; program < 3; program++) {
            Check.due("1: successors", x.successors(program, 0), 0);
        }
        Check.due("1: no snapshot", x.restore(), -3);
        for (int buffer = 0; buffer < 6; buffer++) {
            Check.due("1: null buffer", x.store(buffer, 0, 1), -11);
        }
        Check.due("constants", DynamicLogicProver.INVALID_INDEX, -1);
        Check.due("constants", DynamicLogicProver.OUT_OF_RANGE, -2);
        Check.due("constants", DynamicLogicProver.WRONG_STATE, -3);
        Check.due("constants", DynamicLogicProver.LIMIT_REACHED, -4);
        Check.due("constants", DynamicLogicProver.NO_RESULT, -5);
        Check.due("constants", DynamicLogicProver.NULL_BUFFER, -11);
        Check.due("constants", DynamicLogicProver.WRONG_TYPE, -12);
        Check.due("constants", DynamicLogicProver.OUT_OF_BOUNDS, -13);
        Check.due("constants", DynamicLogicProver.NEGATIVE_LENGTH, -14);
        Check.due("constants", DynamicLogicProver.NO_VALUE, Long.MIN_VALUE);
    }

    private static void setWorlds() {
        DynamicLogicProver x = new DynamicLogicProver();
        Check.due("2: first", x.setWorlds(6), 1);
        x.setLetter(5, 3, true);
        x.setTransition(2, 5, 5, true);
        for (int wrong : new int[] {0, 7, -1, Integer.MAX_VALUE, Integer.MIN_VALUE}) {
            Check.due("2: wrong " + wrong, x.setWorlds(wrong), -2);
        }
        Check.due("2: a wrong call leaves the letters", x.letters(5), 8);
        Check.due("2: a wrong call leaves the transitions", x.count(1), 1);
        Check.due("2: the same number", x.setWorlds(6), 6);
        Check.due("2: letters become false", x.letters(5), 0);
        Check.due("2: transitions are deleted", x.count(1), 0);
        Check.due("2: smaller", x.setWorlds(1), 6);
        Check.due("2: a world is gone", x.letters(1), -1);
        Check.due("2: now one world", x.count(0), 1);
    }

    private static void setLetter() {
        DynamicLogicProver x = new DynamicLogicProver();
        x.setWorlds(3);
        Check.due("3: was false", x.setLetter(2, 1, true), 0);
        Check.due("3: was true", x.setLetter(2, 1, true), 1);
        Check.due("3: another letter", x.setLetter(2, 3, true), 0);
        Check.due("5: letters", x.letters(2), 10);
        Check.due("5: another world", x.letters(1), 0);
        Check.due("3: to false", x.setLetter(2, 1, false), 1);
        Check.due("3: false again", x.setLetter(2, 1, false), 0);
        Check.due("5: one left", x.letters(2), 8);
        int[][] wrong = {{3, 0}, {-1, 0}, {0, 4}, {0, -1}, {Integer.MIN_VALUE, Integer.MAX_VALUE}, {32, 0}, {0, 32}};
        for (int[] pair : wrong) {
            Check.due("3: wrong", x.setLetter(pair[0], pair[1], true), -1);
        }
        for (int world : new int[] {3, -1, 6, Integer.MIN_VALUE, Integer.MAX_VALUE}) {
            Check.due("5: wrong world", x.letters(world), -1);
        }
        Check.due("3: nothing else changed", x.letters(0) + x.letters(1) + x.letters(2), 8);
    }

    private static void setTransition() {
        DynamicLogicProver x = new DynamicLogicProver();
        x.setWorlds(4);
        Check.due("4: new", x.setTransition(1, 2, 3, true), 0);
        Check.due("4: there", x.setTransition(1, 2, 3, true), 1);
        Check.due("4: a loop", x.setTransition(1, 2, 2, true), 0);
        Check.due("6: successors", x.successors(1, 2), 12);
        Check.due("6: another program", x.successors(0, 2), 0);
        Check.due("6: another world", x.successors(1, 3), 0);
        Check.due("4: delete", x.setTransition(1, 2, 3, false), 1);
        Check.due("4: delete again", x.setTransition(1, 2, 3, false), 0);
        Check.due("6: one left", x.successors(1, 2), 4);
        int[][] wrong = {{3, 0, 0}, {-1, 0, 0}, {0, 4, 0}, {0, -1, 0}, {0, 0, 4}, {0, 0, -1},
            {Integer.MAX_VALUE, 0, 0}, {0, Integer.MIN_VALUE, 0}, {0, 0, Integer.MAX_VALUE}};
        for (int[] row : wrong) {
            Check.due("4: wrong", x.setTransition(row[0], row[1], row[2], true), -1);
        }
        Check.due("4: nothing else changed", x.count(1), 1);
        Check.due("6: wrong program", x.successors(3, 0), -1);
        Check.due("6: wrong program", x.successors(-1, 0), -1);
        Check.due("6: wrong world", x.successors(0, 4), -1);
        Check.due("6: wrong world", x.successors(0, -1), -1);
    }

    private static void loadModel() {
        DynamicLogicProver x = new DynamicLogicProver();
        Check.due("7: 2 worlds, 1 letter, 2 programs", x.loadModel(2, 1, 2, 0b1001_0110_10), 2);
        Check.due("7: letters", x.letters(0), 0);
        Check.due("7: letters", x.letters(1), 1);
        Check.due("7: a from 0", x.successors(0, 0), 2);
        Check.due("7: a from 1", x.successors(0, 1), 1);
        Check.due("7: b from 0", x.successors(1, 0), 1);
        Check.due("7: b from 1", x.successors(1, 1), 2);
        Check.due("7: c", x.successors(2, 0) + x.successors(2, 1), 0);
        int[][] wrong = {{0, 0, 0, 0}, {7, 0, 0, 0}, {-1, 0, 0, 0}, {1, 5, 0, 0}, {1, -1, 0, 0}, {1, 0, 4, 0},
            {1, 0, -1, 0}, {2, 3, 2, 0}, {4, 0, 1, 0}, {3, 1, 1, 0}, {1, 0, 0, 1}, {1, 0, 0, -1}, {2, 1, 2, 1024},
            {Integer.MAX_VALUE, 1, 1, 0}, {1, Integer.MAX_VALUE, 0, 0}, {1, 0, Integer.MIN_VALUE, 0},
            {1, 1, 1, Integer.MAX_VALUE}, {1, 1, 1, Integer.MIN_VALUE}, {65536, 0, 1, 0}};
        for (int[] row : wrong) {
            Check.due("7: wrong", x.loadModel(row[0], row[1], row[2], row[3]), -2);
        }
        Check.due("7: a wrong call leaves the model", x.count(1), 4);
        Check.due("7: the largest code", x.loadModel(2, 1, 2, 1023), 2);
        Check.due("7: all transitions", x.count(1), 8);
        Check.due("7: ten bits of letters", x.loadModel(5, 2, 0, 1 << 9 | 1), 5);
        Check.due("7: last letter", x.letters(4), 2);
        Check.due("7: first letter", x.letters(0), 1);
        Check.due("7: six worlds", x.loadModel(6, 1, 0, 63), 6);
        Check.due("7: the last world", x.letters(5), 1);
        Check.due("7: three worlds", x.loadModel(3, 0, 1, 256), 3);
        Check.due("7: from 2 to 2", x.successors(0, 2), 4);
        Check.due("7: the empty space", x.loadModel(6, 0, 0, 0), 6);
        Check.due("7: the old model is gone", x.count(1), 0);
        Check.due("7: all letters and programs", x.loadModel(1, 4, 3, 127), 1);
        Check.due("7: letters", x.letters(0), 15);
    }

    private static void bisimulation() {
        DynamicLogicProver x = new DynamicLogicProver();
        Check.due("8: one world", x.bisimulationClasses(), 1);
        Check.due("9: one world", x.bisimulationClass(0), 0);
        x.setWorlds(6);
        Check.due("8: all alike", x.bisimulationClasses(), 1);
        for (int i = 0; i < 5; i++) {
            x.setTransition(0, i, i + 1, true);
        }
        Check.due("8: a chain has no two worlds alike", x.bisimulationClasses(), 6);
        Check.due("9: the last of a chain", x.bisimulationClass(5), 5);
        x.setTransition(0, 5, 0, true);
        Check.due("8: a ring is all alike", x.bisimulationClasses(), 1);
        x.setLetter(1, 3, true);
        x.setLetter(4, 3, true);
        Check.due("8: a ring with a letter", x.bisimulationClasses(), 3);
        Check.due("9: 0 and 3", x.bisimulationClass(3), 0);
        Check.due("9: 1 and 4", x.bisimulationClass(4), 1);
        Check.due("9: 2 and 5", x.bisimulationClass(5), 2);
        x.setTransition(0, 4, 5, false);
        x.setTransition(1, 4, 5, true);
        Check.due("8: another program matters", x.bisimulationClasses(), 6);
        for (int letter = 0; letter < 4; letter++) {
            x.setWorlds(3);
            x.setLetter(1, letter, true);
            Check.due("8: letter " + letter + " matters", x.bisimulationClasses(), 2);
            Check.due("9: 2 is like 0", x.bisimulationClass(2), 0);
        }
        for (int program = 0; program < 3; program++) {
            x.setWorlds(6);
            x.setTransition(program, 1, 5, true);
            Check.due("8: program " + program + " matters", x.bisimulationClasses(), 2);
            Check.due("9: 1 is alone", x.bisimulationClass(1), 1);
        }
        Check.due("9: wrong", x.bisimulationClass(6), -1);
        Check.due("9: wrong", x.bisimulationClass(-1), -1);
        Check.due("9: wrong", x.bisimulationClass(Integer.MIN_VALUE), -1);
        Check.due("8: queries leave the model", x.count(1), 1);
    }
}
