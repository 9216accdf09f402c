/** The boundary cases of promises 44 to 51: comparison, snapshot, counts and buffers. */
public final class EdgeBufferTest {
    private static final int[] BUFFERS = {Edge.MIN, -1, 0, 1, 2, 3, 4, 5, 6, Edge.MAX};
    /** The lengths and types of the buffers of the fixtures. */
    private static final int[] LENGTHS = {4, 3, 2, 1, 1, 0};
    private static final int[] TYPES = {1, 2, 4, 3, 0, -1};

    public static void main(String[] args) throws ReflectiveOperationException {
        Edge.runAll(EdgeBufferTest.class);
    }

    private static boolean isBuffer(int buffer) {
        return Edge.isIn(buffer, 0, 5);
    }

    // ---- 44

    private static long compared(int[] i) {
        if (!isBuffer(i[0])) {
            return -1;
        }
        if (i[0] != 0 && i[0] != 5) {
            return -12;
        }
        return i[0] == 5 || !Edge.isIn(i[1], 0, 3) ? 1000 : i[1] == 0 ? -5 : 0;
    }

    static void promise44TheBufferThenTheTypeThenTheElements() {
        int[] starts = {Edge.MIN, -4, -1, 0, 1, 2, 3, 4, 60, Edge.MAX - 2, Edge.MAX};
        Edge.sweep(Fixture.PLAIN, "compare", new int[][] {BUFFERS, starts}, (x, i) -> x.compare(i[0], i[1]),
                EdgeBufferTest::compared);
        Edge.sweep(Fixture.FRESH, "compare", new int[][] {BUFFERS, starts}, (x, i) -> x.compare(i[0], i[1]),
                i -> isBuffer(i[0]) ? -5 : -1);
        // eight formulas more, of which the fifth finds no element
        Edge.sweep(Fixture.FULL, "compare", new int[][] {{0, 1, 5, 6}, {0, 1, 4}}, (x, i) -> x.compare(i[0], i[1]),
                i -> i[0] == 6 ? -1 : i[0] == 1 ? -12 : i[0] == 5 || i[1] == 4 ? 1000 : i[1] == 0 ? 1004 : 0);
    }

    static void promise44NoFormulas() {
        DynamicLogicProver x = new DynamicLogicProver();
        x.allocate(0, 1, 0);
        x.allocate(1, 1, 60);
        x.allocate(2, 0, 0);
        for (int from : Edge.around(0, 59)) {
            Check.due("no elements", x.compare(0, from), -5);
            Check.due("sixty elements", x.compare(1, from), -5);
            Check.due("the type comes first", x.compare(2, from), -12);
            Check.due("null", x.compare(3, from), -5);
            Check.due("the buffer comes first", x.compare(6, from), -1);
        }
    }

    static void promise44EveryOtherType() {
        for (int type : new int[] {0, 2, 3, 4}) {
            for (int length : new int[] {0, 60}) {
                DynamicLogicProver x = new DynamicLogicProver();
                x.allocate(5, type, length);
                Check.due("type " + type + ", no formulas", x.compare(5, 0), -12);
                Check.parse(x, "0");
                Check.due("type " + type, x.compare(5, 0), -12);
                Check.due("type " + type + " out of bounds", x.compare(5, 60), -12);
            }
        }
    }

    static void promise44TwelveFormulasAndSixtyElements() {
        DynamicLogicProver x = new DynamicLogicProver();
        x.allocate(0, 1, 60);
        for (int f = 0; f < 12; f++) {
            Check.parse(x, "0");
        }
        Check.due("the first twelve", x.compare(0, 0), -5);
        Check.due("the last twelve", x.compare(0, 48), -5);
        Check.due("eleven", x.compare(0, 49), 1011);
        Check.due("one", x.compare(0, 59), 1001);
        Check.due("none", x.compare(0, 60), 1000);
        Check.due("before the first", x.compare(0, -1), 1000);
        x.store(0, 59, 1);
        Check.due("the last one differs", x.compare(0, 48), 11);
        Check.due("it differs before the end", x.compare(0, 59), 0);
        x.store(0, 58, 1);
        Check.due("the first that differs", x.compare(0, 48), 10);
        x.allocate(0, 1, 12);
        Check.due("twelve elements", x.compare(0, 0), -5);
        x.allocate(0, 1, 11);
        Check.due("eleven elements", x.compare(0, 0), 1011);
        x.allocate(0, 1, 0);
        Check.due("no element", x.compare(0, 0), 1000);
        x.allocate(0, -1, 0);
        Check.due("null", x.compare(0, 0), 1000);
    }

    static void promise44ElementsThatAreNoMasks() {
        DynamicLogicProver x = new DynamicLogicProver();
        x.setWorlds(6);
        x.allocate(0, 1, 1);
        Check.parse(x, "1");
        for (long value : new long[] {0, 62, 64, -1, 127, -32768, 32767, 63 + 256, 63 - 256, -63}) {
            x.store(0, 0, value);
            Check.due("element " + value, x.compare(0, 0), 0);
        }
        for (long value : new long[] {63, 65536 + 63, -65536 + 63}) {
            x.store(0, 0, value);
            Check.due("element " + value, x.compare(0, 0), -5);
        }
    }

    // ---- 45 and 46

    static void promise45NoFormulasAndTwelve() {
        DynamicLogicProver x = new DynamicLogicProver();
        Check.due("no formulas", x.save(), 0);
        Check.due("restored", x.restore(), 0);
        DynamicLogicProver y = Fixture.FULL.make();
        Check.due("twelve formulas", y.save(), 12);
        while (y.dropFormula() >= 0) {
            y.setWorlds(6);
        }
        Check.due("restored", y.restore(), 12);
        Check.due("worlds", y.count(0), 4);
        Check.due("transitions", y.count(1), 4);
        Check.dueText("the first", Check.text(y, 0), "[a*]p");
        Check.dueText("the last", Check.text(y, 11), "q");
        Check.due("the text was never saved", y.count(3), 100);
    }

    static void promise45LeavesAllButTheSnapshot() {
        DynamicLogicProver x = new DynamicLogicProver();
        x.save();
        Check.due("a snapshot of a new object", x.restore(), 0);
        Check.due("worlds", x.count(0), 1);
        DynamicLogicProver y = Fixture.PLAIN.make();
        Check.due("save", y.save(), 4);
        DynamicLogicProver z = Fixture.PLAIN.make();
        z.save();
        Check.due("restore at once", z.restore(), 4);
        Check.dueText("nothing changes", Fixture.trace(z), Fixture.trace(y));
    }

    static void promise46NoSnapshot() {
        Edge.keeps(Fixture.FRESH, "restore", x -> x.restore(), -3);
        DynamicLogicProver x = new DynamicLogicProver();
        x.setWorlds(2);
        Check.parse(x, "p");
        Check.due("no snapshot", x.restore(), -3);
        Check.due("worlds stay", x.count(0), 2);
        Check.due("formulas stay", x.count(2), 1);
    }

    static void promise46TheSnapshotIsKept() {
        DynamicLogicProver x = Fixture.FULL.make();
        for (int i = 0; i < 3; i++) {
            Check.due("formulas", x.restore(), 2);
            Check.due("worlds", x.count(0), 2);
            Check.due("letters", x.letters(1), 8);
            Check.due("transitions", x.successors(2, 1), 1);
            Check.dueText("formula", Check.text(x, 1), "[c]s");
            Check.due("the text is no part of it", x.count(3), 100);
            Check.due("nor are the buffers", x.load(0, 3), 9);
            x.setWorlds(5 - i);
            x.dropFormula();
            x.unroll(0, 1);
        }
    }

    static void promise46ASnapshotOfSixFullWorlds() {
        DynamicLogicProver x = new DynamicLogicProver();
        x.setWorlds(6);
        for (int i = 0; i < 108; i++) {
            x.setTransition(i / 36, i / 6 % 6, i % 6, true);
        }
        for (int i = 0; i < 24; i++) {
            x.setLetter(i / 4, i % 4, true);
        }
        x.save();
        x.setWorlds(1);
        x.restore();
        Check.due("transitions", x.count(1), 108);
        for (int world = 0; world < 6; world++) {
            Check.due("letters", x.letters(world), 15);
        }
    }

    // ---- 47

    static void promise47FourCounts() {
        int[] selectors = {Edge.MIN, -1, 0, 1, 2, 3, 4, Edge.MAX};
        int[][] due = {{1, 0, 0, 0}, {4, 4, 4, 2}, {4, 4, 12, 100}};
        for (Fixture fixture : Fixture.values()) {
            Edge.sweep(fixture, "count", new int[][] {selectors}, (x, i) -> x.count(i[0]),
                    i -> Edge.isIn(i[0], 0, 3) ? due[fixture.ordinal()][i[0]] : -1);
        }
    }

    static void promise47TheLargestCounts() {
        DynamicLogicProver x = new DynamicLogicProver();
        x.setWorlds(6);
        for (int i = 0; i < 108; i++) {
            Check.due("transitions", x.count(1), i);
            x.setTransition(i / 36, i / 6 % 6, i % 6, true);
        }
        Check.due("transitions", x.count(1), 108);
        Check.due("worlds", x.count(0), 6);
    }

    // ---- 48

    static void promise48TheBufferThenTheTypeAndTheLengthThenItsSign() {
        int[] lengths = {Edge.MIN, -1, 0, 60, 61, Edge.MAX};
        int[] types = {Edge.MIN, -2, 0, 4, 5, Edge.MAX};
        Edge.sweep(Fixture.PLAIN, "allocate", new int[][] {Edge.outside(0, 5), {Edge.MIN, -2, -1, 0, 4, 5, Edge.MAX}, lengths},
                (x, i) -> x.allocate(i[0], i[1], i[2]), i -> -1);
        Edge.sweep(Fixture.PLAIN, "allocate", new int[][] {{0, 5}, Edge.outside(-1, 4), lengths},
                (x, i) -> x.allocate(i[0], i[1], i[2]), i -> -2);
        Edge.sweep(Fixture.PLAIN, "allocate", new int[][] {{0, 5}, types, {61, 62, Edge.MAX}},
                (x, i) -> x.allocate(i[0], i[1], i[2]), i -> -2);
        Edge.sweep(Fixture.PLAIN, "allocate", new int[][] {{0, 5}, {0, 1, 2, 3, 4}, {-1, -2, Edge.MIN}},
                (x, i) -> x.allocate(i[0], i[1], i[2]), i -> -14);
        // a null buffer stays null
        Edge.sweep(Fixture.PLAIN, "allocate", new int[][] {{5}, {-1}, lengths}, (x, i) -> x.allocate(i[0], i[1], i[2]), i -> 1);
    }

    static void promise48LengthsFromNoneToSixty() {
        for (int type = 0; type < 5; type++) {
            for (int length : new int[] {0, 1, 59, 60}) {
                DynamicLogicProver x = new DynamicLogicProver();
                Check.due("allocate", x.allocate(5, type, length), 1);
                for (int i = 0; i < length; i++) {
                    Check.due("zero", x.load(5, i), 0);
                    Check.due("taken", x.store(5, i, 1), 1);
                }
                Check.due("behind the last", x.load(5, length), Edge.NO_VALUE);
                Check.due("behind the last", x.store(5, length, 1), -13);
                Check.due("once more", x.allocate(5, type, length), 1);
                for (int i = 0; i < length; i++) {
                    Check.due("zero again", x.load(5, i), 0);
                }
            }
        }
    }

    static void promise48ANullBufferIsNullForAnyLength() {
        for (int length : new int[] {Edge.MIN, -1, 0, 60, 61, Edge.MAX}) {
            DynamicLogicProver x = Fixture.PLAIN.make();
            Check.due("null", x.allocate(0, -1, length), 1);
            Check.due("null", x.load(0, 0), Edge.NO_VALUE);
            Check.due("null", x.store(0, 0, 1), -11);
            Check.due("null", x.copy(0, 0, 0, 0, 0), -11);
            Check.due("the next one stays", x.load(1, 0), 7);
            x.allocate(0, 1, 4);
            for (int i = 0; i < 4; i++) {
                Check.due("zeros after null", x.load(0, i), 0);
                x.store(0, i, Fixture.EXTENSIONS[i]);
            }
            Check.dueText("the rest", Fixture.trace(x), Fixture.PLAIN.trace());
        }
    }

    // ---- 49 and 50

    private static final int[] INDICES = {Edge.MIN, -1, 0, 1, 2, 3, 4, 60, Edge.MAX};

    private static boolean isCell(int buffer, int index) {
        return isBuffer(buffer) && index >= 0 && index < LENGTHS[buffer];
    }

    static void promise49TheBufferThenNullThenTheIndex() {
        long[][] cells = {{8, 10, 13, 9}, {7, -7, 70000}, {1, 0}, {1L << 40}, {-128}};
        // what is stored is what is there, so that the state stays
        Edge.sweep(Fixture.PLAIN, "store", new int[][] {BUFFERS, INDICES},
                (x, i) -> x.store(i[0], i[1], isCell(i[0], i[1]) ? cells[i[0]][i[1]] : 1),
                i -> !isBuffer(i[0]) ? -1 : i[0] == 5 ? -11 : isCell(i[0], i[1]) ? 1 : -13);
        Edge.sweep(Fixture.FRESH, "store", new int[][] {BUFFERS, INDICES}, (x, i) -> x.store(i[0], i[1], 1),
                i -> isBuffer(i[0]) ? -11 : -1);
    }

    static void promise49AnArrayWithoutElements() {
        DynamicLogicProver x = new DynamicLogicProver();
        for (int type = 0; type < 5; type++) {
            x.allocate(0, type, 0);
            for (int index : INDICES) {
                Check.due("store", x.store(0, index, 1), -13);
                Check.due("load", x.load(0, index), Edge.NO_VALUE);
            }
        }
    }

    static void promise49NarrowingAtTheEndsOfEveryType() {
        long[] values = {0, 1, -1, 2, 127, 128, -128, -129, 255, 256, 32767, 32768, -32768, -32769, 65535, 65536,
            Integer.MAX_VALUE, Integer.MAX_VALUE + 1L, Integer.MIN_VALUE, Integer.MIN_VALUE - 1L, 0xFFFFFFFFL, 1L << 32,
            Long.MAX_VALUE, Long.MIN_VALUE, Long.MIN_VALUE + 1};
        DynamicLogicProver x = new DynamicLogicProver();
        for (int type = 0; type < 5; type++) {
            x.allocate(type, type, 60);
            for (long value : values) {
                long[] due = {(byte) value, (short) value, (int) value, value, value != 0 ? 1 : 0};
                Check.due("store", x.store(type, 59, value), 1);
                Check.due(value + " in type " + type, x.load(type, 59), due[type]);
                Check.due("the element before", x.load(type, 58), 0);
            }
        }
    }

    static void promise50TheBufferNullAndTheIndex() {
        long[][] cells = {{8, 10, 13, 9}, {7, -7, 70000}, {1, 0}, {1L << 40}, {-128}};
        Edge.sweep(Fixture.PLAIN, "load", new int[][] {BUFFERS, INDICES}, (x, i) -> x.load(i[0], i[1]),
                i -> isCell(i[0], i[1]) ? cells[i[0]][i[1]] : Edge.NO_VALUE);
        Edge.sweep(Fixture.FRESH, "load", new int[][] {BUFFERS, INDICES}, (x, i) -> x.load(i[0], i[1]), i -> Edge.NO_VALUE);
    }

    static void promise50TheLastElementOfSixtyInEveryBuffer() {
        DynamicLogicProver x = new DynamicLogicProver();
        for (int buffer = 0; buffer < 6; buffer++) {
            x.allocate(buffer, 3, 60);
            x.store(buffer, 0, 10 + buffer);
            x.store(buffer, 59, 20 + buffer);
        }
        for (int buffer = 0; buffer < 6; buffer++) {
            Check.due("the first", x.load(buffer, 0), 10 + buffer);
            Check.due("the last", x.load(buffer, 59), 20 + buffer);
            Check.due("behind the last", x.load(buffer, 60), Edge.NO_VALUE);
            Check.due("before the first", x.load(buffer, -1), Edge.NO_VALUE);
        }
    }

    // ---- 51

    private static long copied(int[] i) {
        if (!isBuffer(i[0]) || !isBuffer(i[2])) {
            return -1;
        }
        if (i[0] == 5 || i[2] == 5) {
            return -11;
        }
        if (TYPES[i[0]] != TYPES[i[2]]) {
            return -12;
        }
        boolean in = i[1] >= 0 && i[3] >= 0 && i[4] >= 0
                && (long) i[1] + i[4] <= LENGTHS[i[0]] && (long) i[3] + i[4] <= LENGTHS[i[2]];
        return in ? i[4] : -13;
    }

    static void promise51TheBuffersThenNullThenTheTypesThenTheBounds() {
        int[] places = {Edge.MIN, -1, 0, 4, 5, Edge.MAX};
        Edge.sweep(Fixture.PLAIN, "copy", new int[][] {BUFFERS, places, BUFFERS, places, {Edge.MIN, -1, 0, Edge.MAX}},
                (x, i) -> x.copy(i[0], i[1], i[2], i[3], i[4]), EdgeBufferTest::copied);
        // a copy to the same place changes nothing
        for (int place : new int[] {Edge.MIN, -1, 0, 1, 3, 4, 5, Edge.MAX}) {
            Edge.sweep(Fixture.PLAIN, "copy", new int[][] {{0}, {place}, {0}, {place}, {Edge.MIN, -1, 0, 1, 3, 4, 5, Edge.MAX}},
                    (x, i) -> x.copy(i[0], i[1], i[2], i[3], i[4]), EdgeBufferTest::copied);
        }
        Edge.sweep(Fixture.FRESH, "copy", new int[][] {BUFFERS, {-1, 0}, BUFFERS, {-1, 0}, {-1, 0, 1}},
                (x, i) -> x.copy(i[0], i[1], i[2], i[3], i[4]), i -> isBuffer(i[0]) && isBuffer(i[2]) ? -11 : -1);
    }

    static void promise51RangesThatEndAtTheEnd() {
        int[] places = {-1, 0, 1, 2, 3, 4, Edge.MAX - 1, Edge.MAX};
        int[] counts = {Edge.MIN, -1, 0, 1, 2, 3, 4, Edge.MAX - 1, Edge.MAX};
        for (int from : places) {
            for (int to : places) {
                for (int count : counts) {
                    copyFromThreeToTwo(from, to, count);
                }
            }
        }
    }

    private static void copyFromThreeToTwo(int from, int to, int count) {
        DynamicLogicProver x = new DynamicLogicProver();
        x.allocate(0, 0, 3);
        x.allocate(5, 0, 2);
        for (int i = 0; i < 3; i++) {
            x.store(0, i, i + 1);
        }
        boolean in = from >= 0 && to >= 0 && count >= 0 && from + (long) count <= 3 && to + (long) count <= 2;
        String name = "copy " + from + " " + to + " " + count;
        Check.due(name, x.copy(0, from, 5, to, count), in ? count : -13);
        for (int i = 0; i < 2; i++) {
            boolean reached = in && i >= to && i < to + count;
            Check.due(name + " at " + i, x.load(5, i), reached ? from + i - to + 1 : 0);
        }
        for (int i = 0; i < 3; i++) {
            Check.due(name + " leaves the source", x.load(0, i), i + 1);
        }
        Check.due(name + " leaves the length", x.load(5, 2), Edge.NO_VALUE);
    }

    static void promise51NoneAndAllOfSixty() {
        for (int type = 0; type < 5; type++) {
            DynamicLogicProver x = new DynamicLogicProver();
            x.allocate(0, type, 60);
            x.allocate(1, type, 60);
            for (int i = 0; i < 60; i++) {
                x.store(0, i, type == 4 ? i % 2 : i);
            }
            Check.due("none at the ends", x.copy(0, 60, 1, 60, 0), 0);
            Check.due("none behind the ends", x.copy(0, 61, 1, 0, 0), -13);
            Check.due("none behind the ends", x.copy(0, 0, 1, 61, 0), -13);
            Check.due("one too many", x.copy(0, 0, 1, 0, 61), -13);
            Check.due("one too far", x.copy(0, 1, 1, 0, 60), -13);
            Check.due("one too far", x.copy(0, 0, 1, 1, 60), -13);
            Check.due("nothing was copied", x.load(1, 1), 0);
            Check.due("all", x.copy(0, 0, 1, 0, 60), 60);
            for (int i = 0; i < 60; i++) {
                Check.due("element " + i, x.load(1, i), type == 4 ? i % 2 : i);
            }
        }
    }

    static void promise51TheSameBufferOntoItself() {
        for (int shift : new int[] {1, 59}) {
            DynamicLogicProver x = new DynamicLogicProver();
            x.allocate(2, 1, 60);
            for (int i = 0; i < 60; i++) {
                x.store(2, i, i);
            }
            Check.due("up", x.copy(2, 0, 2, shift, 60 - shift), 60 - shift);
            for (int i = 0; i < 60; i++) {
                Check.due("up " + shift, x.load(2, i), i < shift ? i : i - shift);
            }
            Check.due("down", x.copy(2, shift, 2, 0, 60 - shift), 60 - shift);
            Check.due("down, the first", x.load(2, 0), 0);
            Check.due("down, the last", x.load(2, 59), 59 - shift);
            Check.due("null with itself", x.copy(3, 0, 3, 0, 0), -11);
        }
    }

    /** Arrays of no elements have types too. */
    static void promise51TypesOfArraysWithoutElements() {
        for (int one = -1; one < 5; one++) {
            for (int other = -1; other < 5; other++) {
                DynamicLogicProver x = new DynamicLogicProver();
                x.allocate(0, one, 0);
                x.allocate(1, other, 0);
                long due = one < 0 || other < 0 ? -11 : one != other ? -12 : 0;
                Check.due("types " + one + " " + other, x.copy(0, 0, 1, 0, 0), due);
                Check.due("types " + one + " " + other, x.copy(0, 0, 1, 0, 1), due == 0 ? -13 : due);
                Check.due("types " + one + " " + other, x.copy(0, 0, 6, 0, 0), -1);
            }
        }
    }
}
