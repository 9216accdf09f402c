/** What the tests share: it counts wrong answers and ends the test with them. */
final class Check {
    private static int wrong = 0;
    private static int looked = 0;

    private Check() { }

    static void due(String what, long got, long want) {
        looked++;
        if (got != want) {
            wrong++;
            if (wrong <= 50) {
                System.out.println(what + " answered " + got + ", due is " + want);
            }
        }
    }

    static void isTrue(String what, boolean truth) {
        due(what, truth ? 1 : 0, 1);
    }

    static void finish() {
        System.out.println(looked + " answers looked at, " + wrong + " wrong");
        System.exit(wrong == 0 && looked > 0 ? 0 : 1);
    }

    static int wrong() {
        return wrong;
    }

    /** Appends a text; answers what the last call answered. */
    static int type(DynamicLogicProver x, String text) {
        int answer = 0;
        for (int i = 0; i < text.length(); i++) {
            answer = x.appendChar(text.charAt(i));
        }
        return answer;
    }

    /** Appends a text and parses it. */
    static int parse(DynamicLogicProver x, String text) {
        type(x, text);
        return x.parseFormula();
    }

    /** The canonical text of a stored formula. */
    static String text(DynamicLogicProver x, int f) {
        StringBuilder all = new StringBuilder();
        for (int i = 0; i < x.textLength(f); i++) {
            all.append((char) x.textChar(f, i));
        }
        return all.toString();
    }

    static void dueText(String what, String got, String want) {
        looked++;
        if (!got.equals(want)) {
            wrong++;
            System.out.println(what + " answered " + got + ", due is " + want);
        }
    }

    static String repeat(String text, int times) {
        return text.repeat(times);
    }
}
