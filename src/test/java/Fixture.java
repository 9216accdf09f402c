/** Objects with something in every part of their state, and all that calls show of a state. */
enum Fixture {
    /** A new object. */
    FRESH,
    /** Four worlds, four formulas, two characters, five arrays and a null buffer, and a snapshot of another model. */
    PLAIN,
    /** The same with twelve formulas and a hundred characters. */
    FULL;

    /** What formulas 0 to 3 are, how large, and where they are true. */
    static final String[] TEXTS = {"[a*]p", "p", "[(a;b)]q", "([a](p-0)-0)"};
    static final int[] SIZES = {4, 1, 5, 7};
    static final int[] EXTENSIONS = {8, 10, 13, 9};
    /** The letters of worlds 0 to 3, and where a, b and c lead from them. */
    static final int[] LETTERS = {2, 1, 0, 9};
    static final int[][] MOVES = {{2, 4, 0, 8}, {0, 0, 8, 0}, {0, 0, 0, 0}};
    /** Of length 100 and size 33. */
    static final String FULL_TEXT = "((p))-".repeat(15) + "!((((p))))";

    private String known;

    /** What trace answers for a new object of this kind. */
    String trace() {
        if (known == null) {
            known = trace(make());
        }
        return known;
    }

    DynamicLogicProver make() {
        DynamicLogicProver x = new DynamicLogicProver();
        if (this == FRESH) {
            return x;
        }
        snapshot(x);
        model(x);
        for (String text : TEXTS) {
            Check.parse(x, text);
        }
        while (this == FULL && x.count(2) < 12) {
            Check.parse(x, "q");
        }
        buffers(x);
        Check.type(x, this == FULL ? FULL_TEXT : "p&");
        return x;
    }

    private static void snapshot(DynamicLogicProver x) {
        x.setWorlds(2);
        x.setLetter(1, 3, true);
        x.setTransition(2, 1, 0, true);
        Check.parse(x, "s");
        Check.parse(x, "[c]s");
        x.save();
        x.dropFormula();
        x.dropFormula();
    }

    private static void model(DynamicLogicProver x) {
        x.setWorlds(4);
        x.setLetter(0, 1, true);
        x.setLetter(1, 0, true);
        x.setLetter(3, 0, true);
        x.setLetter(3, 3, true);
        x.setTransition(0, 0, 1, true);
        x.setTransition(0, 1, 2, true);
        x.setTransition(0, 3, 3, true);
        x.setTransition(1, 2, 3, true);
    }

    /** short[4] with the extensions, int[3], boolean[2], long[1], byte[1] and null. */
    private static void buffers(DynamicLogicProver x) {
        x.allocate(0, 1, 4);
        for (int i = 0; i < 4; i++) {
            x.store(0, i, EXTENSIONS[i]);
        }
        x.allocate(1, 2, 3);
        x.store(1, 0, 7);
        x.store(1, 1, -7);
        x.store(1, 2, 70000);
        x.allocate(2, 4, 2);
        x.store(2, 0, 1);
        x.allocate(3, 3, 1);
        x.store(3, 0, 1L << 40);
        x.allocate(4, 0, 1);
        x.store(4, 0, -128);
    }

    /** All that can be seen of a state. It uses the object up: the text and the snapshot show only by calls. */
    static String trace(DynamicLogicProver x) {
        StringBuilder all = new StringBuilder();
        for (int what = 0; what < 4; what++) {
            all.append(x.count(what)).append(' ');
        }
        traceModel(x, all);
        traceFormulas(x, all);
        for (int buffer = 0; buffer < 6; buffer++) {
            traceBuffer(x, buffer, all);
        }
        all.append("text ").append(x.appendChar('q')).append(' ');
        if (x.count(2) == 12) {
            all.append(x.dropFormula()).append(' ');
        }
        int parsed = x.parseFormula();
        all.append(parsed).append(' ').append(Check.text(x, parsed));
        all.append(" snapshot ").append(x.restore()).append(' ');
        traceModel(x, all);
        traceFormulas(x, all);
        return all.toString();
    }

    private static void traceModel(DynamicLogicProver x, StringBuilder all) {
        all.append("model ");
        for (int world = 0; world < x.count(0); world++) {
            all.append(x.letters(world)).append(':');
            for (int program = 0; program < 3; program++) {
                all.append(x.successors(program, world)).append(' ');
            }
        }
    }

    private static void traceFormulas(DynamicLogicProver x, StringBuilder all) {
        all.append("formulas ");
        int formulas = x.count(2);
        for (int f = 0; f < formulas; f++) {
            all.append(Check.text(x, f)).append(' ');
        }
    }

    private static void traceBuffer(DynamicLogicProver x, int buffer, StringBuilder all) {
        all.append("buffer ");
        for (int i = 0; i <= 60; i++) {
            long cell = x.load(buffer, i);
            if (cell == Edge.NO_VALUE) {
                break;
            }
            all.append(cell).append(' ');
        }
        // what the type makes of this value tells the type
        all.append(x.store(buffer, 0, 0x123456789ABCDEF0L)).append(' ').append(x.load(buffer, 0)).append(' ');
    }
}
