/** Promises 44 to 51: comparison, snapshot, counts and buffers. */
public final class BufferTest {
    private static final long NO_VALUE = Long.MIN_VALUE;

    public static void main(String[] args) {
        compare();
        snapshot();
        counts();
        allocate();
        storeAndLoad();
        copy();
        Check.finish();
    }

    private static void compare() {
        DynamicLogicProver x = new DynamicLogicProver();
        x.setWorlds(6);
        x.setLetter(5, 0, true);
        Check.due("44: no formulas and null", x.compare(0, 0), -5);
        x.allocate(1, 2, 5);
        Check.due("44: the type comes before the formulas", x.compare(1, 0), -12);
        x.allocate(1, 1, 3);
        Check.due("44: no formulas", x.compare(1, 99), -5);
        Check.parse(x, "p");
        Check.parse(x, "1");
        Check.due("44: null", x.compare(0, 0), 1000);
        Check.due("44: zeros", x.compare(1, 0), 0);
        x.store(1, 1, 32);
        Check.due("44: the first differs", x.compare(1, 2), 0);
        Check.due("44: second differs", x.compare(1, 1), 1);
        x.store(1, 2, 63);
        Check.due("44: no difference", x.compare(1, 1), -5);
        x.store(1, 2, 32);
        Check.due("44: one compared", x.compare(1, 2), 1001);
        Check.due("44: out of bounds at once", x.compare(1, 3), 1000);
        Check.due("44: before the array", x.compare(1, -1), 1000);
        Check.due("44: far before", x.compare(1, Integer.MIN_VALUE), 1000);
        Check.due("44: far behind", x.compare(1, Integer.MAX_VALUE), 1000);
        x.allocate(2, 1, 0);
        Check.due("44: no elements", x.compare(2, 0), 1000);
        for (int type : new int[] {0, 2, 3, 4}) {
            x.allocate(2, type, 9);
            Check.due("44: type " + type, x.compare(2, 0), -12);
        }
        for (int wrong : new int[] {-1, 6, Integer.MAX_VALUE, Integer.MIN_VALUE}) {
            Check.due("44: wrong buffer", x.compare(wrong, 0), -1);
        }
    }

    private static void snapshot() {
        DynamicLogicProver x = new DynamicLogicProver();
        Check.due("46: none", x.restore(), -3);
        Check.due("45: empty", x.save(), 0);
        x.setWorlds(3);
        x.setTransition(2, 1, 0, true);
        x.setLetter(2, 2, true);
        Check.parse(x, "[a]p");
        Check.parse(x, "r");
        Check.due("46: back to the empty one", x.restore(), 0);
        Check.due("46: one world", x.count(0), 1);
        Check.due("46: no transitions", x.count(1), 0);
        Check.due("46: no letters", x.letters(0), 0);
        x.setWorlds(3);
        x.setTransition(2, 1, 0, true);
        x.setLetter(2, 2, true);
        Check.parse(x, "[a]p");
        Check.parse(x, "r");
        Check.due("45: in place of the earlier one", x.save(), 2);
        x.setWorlds(2);
        x.dropFormula();
        Check.parse(x, "s");
        Check.parse(x, "q");
        Check.type(x, "pp");
        x.allocate(0, 2, 4);
        x.store(0, 1, 7);
        Check.due("46: restore", x.restore(), 2);
        Check.due("46: worlds", x.count(0), 3);
        Check.due("46: transition", x.successors(2, 1), 1);
        Check.due("46: letter", x.letters(2), 4);
        Check.dueText("46: formula 0", Check.text(x, 0), "[a]p");
        Check.dueText("46: formula 1", Check.text(x, 1), "r");
        Check.due("46: the text buffer is no part of it", x.count(3), 2);
        Check.due("46: the buffers are no part of it", x.load(0, 1), 7);
        x.dropFormula();
        x.setLetter(0, 0, true);
        Check.due("46: the snapshot is kept", x.restore(), 2);
        Check.due("46: and is not changed with the model", x.letters(0), 0);
        Check.due("46: nor with the formulas", x.extension(1), 4);
    }

    private static void counts() {
        DynamicLogicProver x = new DynamicLogicProver();
        x.setWorlds(6);
        for (int program = 0; program < 3; program++) {
            for (int from = 0; from < 6; from++) {
                for (int to = 0; to < 6; to++) {
                    x.setTransition(program, from, to, true);
                }
            }
        }
        Check.parse(x, "p");
        Check.type(x, "[a]");
        Check.due("47: worlds", x.count(0), 6);
        Check.due("47: transitions", x.count(1), 108);
        Check.due("47: formulas", x.count(2), 1);
        Check.due("47: characters", x.count(3), 3);
        for (int wrong : new int[] {-1, 4, Integer.MAX_VALUE, Integer.MIN_VALUE}) {
            Check.due("47: wrong", x.count(wrong), -1);
        }
    }

    private static void allocate() {
        DynamicLogicProver x = new DynamicLogicProver();
        for (int type = 0; type < 5; type++) {
            Check.due("48: type " + type, x.allocate(type, type, 60), 1);
            Check.due("48: the last element", x.load(type, 59), 0);
            Check.due("48: one more", x.load(type, 60), NO_VALUE);
        }
        Check.due("48: no elements", x.allocate(5, 0, 0), 1);
        Check.due("48: no elements", x.load(5, 0), NO_VALUE);
        x.store(3, 0, 8);
        x.store(3, 5, 9);
        Check.due("48: a wrong type", x.allocate(3, 5, 1), -2);
        Check.due("48: a wrong type", x.allocate(3, -2, 1), -2);
        Check.due("48: too long", x.allocate(3, 0, 61), -2);
        Check.due("48: negative", x.allocate(3, 0, -1), -14);
        Check.due("48: negative", x.allocate(3, 4, Integer.MIN_VALUE), -14);
        Check.due("48: the type comes before the length", x.allocate(3, 7, -1), -2);
        Check.due("48: the buffer comes first", x.allocate(6, 7, -1), -1);
        Check.due("48: the buffer comes first", x.allocate(-1, -1, 0), -1);
        Check.due("48: a wrong call leaves the buffer", x.load(3, 5), 9);
        Check.due("48: anew", x.allocate(3, 3, 10), 1);
        for (int i = 0; i < 10; i++) {
            Check.due("48: zeros", x.load(3, i), 0);
        }
        Check.due("48: the new length", x.load(3, 10), NO_VALUE);
        Check.due("48: null, any length", x.allocate(3, -1, -7), 1);
        Check.due("48: null", x.load(3, 0), NO_VALUE);
        Check.due("48: null", x.store(3, 0, 1), -11);
        Check.due("48: null, any length", x.allocate(2, -1, 1000), 1);
        Check.due("48: null", x.store(2, 0, 1), -11);
    }

    private static void storeAndLoad() {
        DynamicLogicProver x = new DynamicLogicProver();
        long value = 0x1122334455668899L;
        long[] due = {(byte) value, (short) value, (int) value, value, 1};
        for (int type = 0; type < 5; type++) {
            x.allocate(0, type, 2);
            Check.due("49: type " + type, x.store(0, 1, value), 1);
            Check.due("50: type " + type, x.load(0, 1), due[type]);
            Check.due("50: the other element", x.load(0, 0), 0);
            x.store(0, 1, -1);
            Check.due("50: -1 in type " + type, x.load(0, 1), type == 4 ? 1 : -1);
            x.store(0, 1, 0);
            Check.due("50: 0 in type " + type, x.load(0, 1), 0);
            x.store(0, 1, 1L << 40);
            Check.due("50: a high bit in type " + type, x.load(0, 1), type < 3 ? 0 : type == 3 ? 1L << 40 : 1);
            Check.due("49: one more", x.store(0, 2, 1), -13);
            Check.due("49: one before", x.store(0, -1, 1), -13);
            Check.due("49: far away", x.store(0, Integer.MAX_VALUE, 1), -13);
            Check.due("50: one more", x.load(0, 2), NO_VALUE);
            Check.due("50: one before", x.load(0, -1), NO_VALUE);
            Check.due("50: far away", x.load(0, Integer.MIN_VALUE), NO_VALUE);
        }
        Check.due("49: wrong buffer", x.store(6, 0, 1), -1);
        Check.due("49: wrong buffer", x.store(-1, 0, 1), -1);
        Check.due("49: null", x.store(1, -1, 1), -11);
        Check.due("50: wrong buffer", x.load(6, 0), NO_VALUE);
        Check.due("50: wrong buffer", x.load(-1, 0), NO_VALUE);
        Check.due("50: null", x.load(1, 0), NO_VALUE);
        x.allocate(1, 3, 60);
        x.store(1, 59, 5);
        x.allocate(2, 3, 60);
        Check.due("50: buffers are apart", x.load(2, 0), 0);
        x.store(2, 0, 6);
        Check.due("50: buffers are apart", x.load(1, 59), 5);
    }

    private static void copy() {
        DynamicLogicProver x = new DynamicLogicProver();
        x.allocate(0, 2, 5);
        x.allocate(1, 2, 3);
        x.allocate(2, 3, 5);
        for (int i = 0; i < 5; i++) {
            x.store(0, i, i + 1);
        }
        Check.due("51: copy", x.copy(0, 2, 1, 0, 3), 3);
        Check.due("51: first", x.load(1, 0), 3);
        Check.due("51: last", x.load(1, 2), 5);
        Check.due("51: the same buffer", x.copy(0, 0, 0, 1, 4), 4);
        int[] due = {1, 1, 2, 3, 4};
        for (int i = 0; i < 5; i++) {
            Check.due("51: as by System.arraycopy", x.load(0, i), due[i]);
        }
        Check.due("51: the other way", x.copy(0, 1, 0, 0, 4), 4);
        int[] back = {1, 2, 3, 4, 4};
        for (int i = 0; i < 5; i++) {
            Check.due("51: as by System.arraycopy", x.load(0, i), back[i]);
        }
        Check.due("51: nothing, at the ends", x.copy(0, 5, 1, 3, 0), 0);
        int[][] out = {{6, 0, 0}, {-1, 0, 1}, {0, -1, 1}, {0, 4, 0}, {0, 0, -1}, {0, 0, 4}, {3, 0, 3}, {0, 1, 3},
            {Integer.MAX_VALUE, 0, 1}, {0, Integer.MAX_VALUE, 1}, {1, 1, Integer.MAX_VALUE},
            {Integer.MAX_VALUE, Integer.MAX_VALUE, Integer.MAX_VALUE}, {0, 0, Integer.MIN_VALUE}};
        for (int[] row : out) {
            Check.due("51: out of bounds", x.copy(0, row[0], 1, row[1], row[2]), -13);
        }
        Check.due("51: other types", x.copy(0, 0, 2, 0, 1), -12);
        Check.due("51: the type comes before the bounds", x.copy(0, -1, 2, 0, 1), -12);
        Check.due("51: null", x.copy(0, 0, 3, 0, 1), -11);
        Check.due("51: null", x.copy(3, 0, 0, 0, 1), -11);
        Check.due("51: null with itself", x.copy(3, 0, 3, 0, 0), -11);
        Check.due("51: wrong buffer", x.copy(6, 0, 3, 0, 1), -1);
        Check.due("51: wrong buffer", x.copy(3, 0, -1, 0, 1), -1);
        x.allocate(4, 4, 1);
        x.allocate(5, 0, 1);
        Check.due("51: boolean and byte differ", x.copy(4, 0, 5, 0, 1), -12);
        Check.due("51: nothing was changed", x.load(1, 0), 3);
    }
}
