import java.io.IOException;
import java.nio.file.Files;
import java.nio.file.Path;
import java.util.ArrayList;
import java.util.HashSet;
import java.util.List;
import java.util.Set;
import java.util.TreeSet;
import java.util.regex.Matcher;
import java.util.regex.Pattern;

/** The rules of LANGUAGE.md that can be seen in the text of the class. */
public final class LanguageTest {
    private static String code;

    public static void main(String[] args) throws IOException {
        String source = Files.readString(Path.of("src/main/java/DynamicLogicProver.java"));
        code = source.replaceAll("(?s)/\\*.*?\\*/", "").replaceAll("//[^\n]*", "");
        face();
        words();
        indices();
        methods();
        classes();
        Check.finish();
    }

    /** Rule 1: what is public is what the document's face lists, and no other method has such a name. */
    private static void face() throws IOException {
        Set<String> written = new TreeSet<>();
        Matcher line = Pattern.compile("(?m)^    public ([^\\n;{]*?) ?[;{]$").matcher(code);
        Set<String> names = new HashSet<>();
        while (line.find()) {
            written.add(line.group(1).trim());
            Matcher name = Pattern.compile("(\\w+)\\(").matcher(line.group(1));
            if (name.find()) {
                names.add(name.group(1));
            }
        }
        Path document = Path.of("../shared/DOC.md");
        if (Files.exists(document)) {
            Set<String> due = new TreeSet<>();
            String text = Files.readString(document);
            String face = text.substring(text.indexOf("```java"), text.indexOf("```\n", text.indexOf("```java") + 7));
            Matcher row = Pattern.compile("(?m)^    public ([^\\n]*);$").matcher(face);
            while (row.find()) {
                due.add(row.group(1));
            }
            Check.dueText("rule 1: the face", written.toString(), due.toString());
        }
        for (String name : declared()) {
            if (name.startsWith("inner ")) {
                Check.isTrue("rule 1: a method named like a public one: " + name, !names.contains(name.substring(6)));
            }
        }
        Check.due("rule 1: protected", count("\\bprotected\\b"), 0);
        Check.due("rule 1: members of the class are private or public",
                count("(?m)^    (?!public |private |\\}|\\{)\\w[^\\n]*[;{]$"), 0);
    }

    /** The methods, with "inner " before those that are not public. */
    private static List<String> declared() {
        List<String> all = new ArrayList<>();
        Matcher m = Pattern.compile("(?m)^ +((?:public |private |static |final )*+)[\\w\\[\\]]+ (\\w+)\\([^)]*\\) \\{$").matcher(code);
        while (m.find()) {
            all.add((m.group(1).contains("public") ? "" : "inner ") + m.group(2));
        }
        return all;
    }

    private static int count(String pattern) {
        Matcher m = Pattern.compile(pattern).matcher(code);
        int total = 0;
        while (m.find()) {
            total++;
        }
        return total;
    }

    private static void words() {
        String[] outside = {"throw", "throws", "try", "catch", "finally", "synchronized", "assert", "hashCode",
            "toString", "volatile", "native", "Exact", "Object", "Exception", "double", "float", "System\\.(?!arraycopy)",
            "while", "do", "package", "Random", "Thread", "reflect"};
        for (String word : outside) {
            Check.due("outside the rules: " + word, count("\\b" + word + (word.endsWith(")") ? "" : "\\b")), 0);
        }
        Check.due("rule 4: Exact", count("Exact\\("), 0);
        Check.due("rule 2: lambdas", count("->"), 0);
        Check.due("rule 2: method references", count("::"), 0);
        Check.due("rule 5: static blocks", count("static \\{"), 0);
        Check.due("rule 5: static fields are final", count("(?m)\\bstatic (?!final)[\\w\\[\\]]+ \\w+( =|;)"), 0);
        Check.due("rule 4: imports", count("(?m)^import (?!java\\.util\\.Arrays;)"), 0);
        Check.due("rule 10: texts joined by +", count("\"\\s*\\+|\\+\\s*\""), 0);
    }

    /** Rule 7: rows are read and written in four places, each behind its test; divisors are constants. */
    private static void indices() {
        Check.due("rule 7: bare indices", count("[\\w)\\]]\\[(?!\\])") - count("new (int|long)\\["), 4);
        Check.due("rule 7: the tests of indices", count("row != null && index >= 0 && index < row\\.length"), 4);
        Check.due("rule 7: divisors", count("[/%] *(?!64\\b|MAX_WORLDS\\b)\\w"), 0);
        Check.due("rule 12: arrays and objects made outside of fields", count("(?m)^ ++(?!private final )[^\\n]*\\bnew \\w"), 0);
    }

    /** Rule 11: at most seven parameters and some sixty lines. */
    private static void methods() {
        Matcher m = Pattern.compile("(?m)^( +)(?:public |private |static )*[\\w\\[\\]]+ (\\w+)\\(([^)]*)\\) \\{\\n").matcher(code);
        while (m.find()) {
            int parameters = m.group(3).isEmpty() ? 0 : m.group(3).split(",").length;
            Check.isTrue("rule 11: parameters of " + m.group(2), parameters <= 7);
            int end = code.indexOf("\n" + m.group(1) + "}\n", m.end());
            int lines = code.substring(m.end(), Math.max(end, m.end())).split("\n").length;
            Check.isTrue("rule 11: lines of " + m.group(2) + " are " + lines, end > 0 && lines <= 60);
        }
    }

    /** Rules 2 and 11: some twelve classes, static, with some twenty fields. */
    private static void classes() {
        Check.due("rule 2: classes inside are private, static and final",
                count("\\bclass \\w+ \\{") - count("    private static final class \\w+ \\{"), 1);
        Check.isTrue("rule 11: classes", count("\\bclass \\w+ \\{") <= 12);
        for (String part : code.split("\\bclass \\w+ \\{")) {
            Matcher m = Pattern.compile("(?m)^ +private (final )?[\\w\\[\\]]+ \\w+( = [^\\n]*)?;$").matcher(part);
            int fields = 0;
            while (m.find()) {
                fields++;
            }
            Check.isTrue("rule 11: fields " + fields, fields <= 20);
        }
    }
}
