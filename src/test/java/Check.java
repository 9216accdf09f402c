/** What the tests share: it counts wrong answers and ends the test with them. */
final class Check {
    private static int wrong = 0;
    private static int looked = 0;
    private static String test = "";

    private Check() { }

    /** The name that comes before the messages from now on, until another one is given. */
    static void begin(String name) {
        test = name.isEmpty() ? "" : name + ": ";
    }

    static void due(String what, long got, long want) {
        looked++;
        if (got != want) {
            report(what + " answered " + got + ", due is " + want);
        }
    }

    private static void report(String message) {
        wrong++;
        if (wrong <= 50) {
            System.out.println(test + message);
        }
    }

    static void isTrue(String what, boolean truth) {
        due(what, truth ? 1 : 0, 1);
    }

    static void finish() {
        System.out.println(looked + " answers looked at, " + wrong + " wrong");
        System.exit(wrong == 0 && looked > 0 ? 0 : 1);
    }

    static int wrong() {
        return wrong;
    }

    static int looked() {
        return looked;
    }

    /** Appends a text; answers what the last call answered. */
    static int type(DynamicLogicProver x, String text) {
        int answer = 0;
        for (int i = 0; i < text.length(); i++) {
            answer = x.appendChar(text.charAt(i));
        }
        return answer;
    }

    /** Appends a text and parses it. */
    static int parse(DynamicLogicProver x, String text) {
        type(x, text);
        return x.parseFormula();
    }

    /** The canonical text of a stored formula. */
    static String text(DynamicLogicProver x, int f) {
        StringBuilder all = new StringBuilder();
        int length = x.textLength(f);
        for (int i = 0; i < length; i++) {
            all.append((char) x.textChar(f, i));
        }
        return all.toString();
    }

    static void dueText(String what, String got, String want) {
        looked++;
        if (!got.equals(want)) {
            report(what + " answered " + got + ", due is " + want);
        }
    }
}
