import java.util.ArrayList;
import java.util.HashMap;
import java.util.HashSet;
import java.util.List;
import java.util.Map;
import java.util.Set;
import java.util.TreeSet;

/** The document's definitions in their plainest form, written without a look at the class. */
final class Reference {
    /** Kinds: 0, p to s, -, [ (a box), a to c, ;, +, *, ?. */
    record Node(char kind, Node left, Node right) {
        int size() {
            return 1 + (left == null ? 0 : left.size()) + (right == null ? 0 : right.size());
        }

        int height() {
            int inner = Math.max(left == null ? 0 : left.height(), right == null ? 0 : right.height());
            return kind == '*' ? inner + 1 : inner;
        }

        String text() {
            return switch (kind) {
                case '-', ';', '+' -> "(" + left.text() + kind + right.text() + ")";
                case '[' -> "[" + left.text() + "]" + right.text();
                case '*' -> left.text() + "*";
                case '?' -> "?" + left.text();
                default -> String.valueOf(kind);
            };
        }
    }

    private Reference() { }

    static final Node FALSE = new Node('0', null, null);

    static Node not(Node g) {
        return new Node('-', g, FALSE);
    }

    static Node and(Node g, Node h) {
        return not(new Node('-', g, not(h)));
    }

    static Node or(Node g, Node h) {
        return new Node('-', not(g), h);
    }

    static Node box(Node p, Node g) {
        return new Node('[', p, g);
    }

    static int order(Node f, Node g) {
        return f.size() != g.size() ? Integer.compare(f.size(), g.size()) : f.text().compareTo(g.text());
    }

    // ---- texts: all ways to read a text are followed at once

    /** A way to read a part of a text: where it ends, and what it is. */
    record Read(int end, Node node) { }

    private static String source;
    private static boolean ranOut;
    private static Map<String, List<Read>> memory;

    /** Answers the formula, or the fault position. */
    static Object parse(String text) {
        for (int i = 1; i <= text.length(); i++) {
            source = text.substring(0, i);
            ranOut = false;
            memory = new HashMap<>();
            boolean whole = read("F", 0, 0).stream().anyMatch(r -> r.end == source.length());
            if (!whole && !ranOut) {
                return i - 1;
            }
        }
        source = text;
        memory = new HashMap<>();
        for (Read r : read("F", 0, 0)) {
            if (r.end == text.length()) {
                return r.node;
            }
        }
        return text.length();
    }

    private static char sign(int place) {
        if (place >= source.length()) {
            ranOut = true;
            return 0;
        }
        return source.charAt(place);
    }

    private static List<Read> read(String rule, int place, int open) {
        String key = rule + place + "," + open;
        List<Read> found = memory.get(key);
        if (found == null) {
            found = switch (rule) {
                case "F" -> readF(place, open);
                case "D" -> row("C", '|', place, open);
                case "C" -> row("U", '&', place, open);
                case "P" -> row("S", '+', place, open);
                case "S" -> row("T", ';', place, open);
                case "T" -> readT(place, open);
                case "U" -> readU(place, open);
                default -> readB(place, open);
            };
            memory.put(key, found);
        }
        return found;
    }

    private static List<Read> readF(int place, int open) {
        List<Read> all = new ArrayList<>();
        for (Read d : read("D", place, open)) {
            all.add(d);
            if (sign(d.end) == '-') {
                for (Read f : read("F", d.end + 1, open)) {
                    all.add(new Read(f.end, new Node('-', d.node, f.node)));
                }
            }
        }
        return all;
    }

    private static List<Read> row(String part, char sign, int place, int open) {
        List<Read> all = new ArrayList<>(read(part, place, open));
        for (int i = 0; i < all.size(); i++) {
            Read before = all.get(i);
            if (sign(before.end) == sign) {
                for (Read next : read(part, before.end + 1, open)) {
                    all.add(new Read(next.end, join(sign, before.node, next.node)));
                }
            }
        }
        return all;
    }

    private static Node join(char sign, Node g, Node h) {
        return sign == '|' ? or(g, h) : sign == '&' ? and(g, h) : new Node(sign, g, h);
    }

    private static List<Read> readT(int place, int open) {
        List<Read> all = new ArrayList<>(read("B", place, open));
        for (int i = 0; i < all.size(); i++) {
            if (sign(all.get(i).end) == '*') {
                all.add(new Read(all.get(i).end + 1, new Node('*', all.get(i).node, null)));
            }
        }
        return all;
    }

    private static List<Read> readU(int place, int open) {
        List<Read> all = new ArrayList<>();
        char c = sign(place);
        if (c == '0' || "pqrs".indexOf(c) >= 0 && c != 0) {
            all.add(new Read(place + 1, new Node(c, null, null)));
        } else if (c == '1') {
            all.add(new Read(place + 1, not(FALSE)));
        } else if (c != 0 && "![<(".indexOf(c) >= 0 && open < 12) {
            if (c == '!') {
                for (Read u : read("U", place + 1, open + 1)) {
                    all.add(new Read(u.end, not(u.node)));
                }
            } else if (c == '(') {
                for (Read f : read("F", place + 1, open + 1)) {
                    if (sign(f.end) == ')') {
                        all.add(new Read(f.end + 1, f.node));
                    }
                }
            } else {
                for (Read p : read("P", place + 1, open + 1)) {
                    if (sign(p.end) == (c == '[' ? ']' : '>')) {
                        for (Read u : read("U", p.end + 1, open + 1)) {
                            Node node = c == '[' ? box(p.node, u.node) : not(box(p.node, not(u.node)));
                            all.add(new Read(u.end, node));
                        }
                    }
                }
            }
        }
        return all;
    }

    private static List<Read> readB(int place, int open) {
        List<Read> all = new ArrayList<>();
        char c = sign(place);
        if (c != 0 && "abc".indexOf(c) >= 0) {
            all.add(new Read(place + 1, new Node(c, null, null)));
        } else if (c == '?' && open < 12) {
            for (Read u : read("U", place + 1, open + 1)) {
                all.add(new Read(u.end, new Node('?', u.node, null)));
            }
        } else if (c == '(' && open < 12) {
            for (Read p : read("P", place + 1, open + 1)) {
                if (sign(p.end) == ')') {
                    all.add(new Read(p.end + 1, p.node));
                }
            }
        }
        return all;
    }

    // ---- models, truth and runs

    static final class World {
        final int n;
        final boolean[][] letters;
        final boolean[][][] moves;

        World(int n) {
            this.n = n;
            letters = new boolean[n][4];
            moves = new boolean[3][n][n];
        }

        static World ofCode(int w, int k, int m, int code) {
            World x = new World(w);
            for (int i = 0; i < w; i++) {
                for (int j = 0; j < k; j++) {
                    x.letters[i][j] = (code >> (i * k + j) & 1) == 1;
                }
            }
            for (int j = 0; j < m; j++) {
                for (int u = 0; u < w; u++) {
                    for (int v = 0; v < w; v++) {
                        x.moves[j][u][v] = (code >> (w * k + (j * w + u) * w + v) & 1) == 1;
                    }
                }
            }
            return x;
        }

        boolean isTrue(Node f, int w) {
            switch (f.kind) {
                case '0':
                    return false;
                case '-':
                    return !isTrue(f.left, w) || isTrue(f.right, w);
                case '[':
                    boolean[][] r = relation(f.left);
                    for (int v = 0; v < n; v++) {
                        if (r[w][v] && !isTrue(f.right, v)) {
                            return false;
                        }
                    }
                    return true;
                default:
                    return letters[w][f.kind - 'p'];
            }
        }

        int mask(Node f) {
            int mask = 0;
            for (int w = 0; w < n; w++) {
                mask |= isTrue(f, w) ? 1 << w : 0;
            }
            return mask;
        }

        boolean[][] relation(Node p) {
            boolean[][][] both = runs(p);
            return unite(both[0], both[1]);
        }

        /** The pairs that have a run without a step, and those that have a run with at least one. */
        boolean[][][] runs(Node p) {
            boolean[][] none = new boolean[n][n];
            switch (p.kind) {
                case ';': {
                    boolean[][][] x = runs(p.left);
                    boolean[][][] y = runs(p.right);
                    boolean[][] all = unite(y[0], y[1]);
                    return new boolean[][][] {follow(x[0], y[0]), unite(follow(x[1], all), follow(x[0], y[1]))};
                }
                case '+': {
                    boolean[][][] x = runs(p.left);
                    boolean[][][] y = runs(p.right);
                    return new boolean[][][] {unite(x[0], y[0]), unite(x[1], y[1])};
                }
                case '*': {
                    boolean[][][] x = runs(p.left);
                    boolean[][] any = often(unite(x[0], x[1]));
                    return new boolean[][][] {often(x[0]), follow(any, follow(x[1], any))};
                }
                case '?': {
                    for (int w = 0; w < n; w++) {
                        none[w][w] = isTrue(p.left, w);
                    }
                    return new boolean[][][] {none, new boolean[n][n]};
                }
                default:
                    return new boolean[][][] {none, moves[p.kind - 'a']};
            }
        }

        private boolean[][] unite(boolean[][] x, boolean[][] y) {
            boolean[][] r = new boolean[n][n];
            for (int u = 0; u < n; u++) {
                for (int v = 0; v < n; v++) {
                    r[u][v] = x[u][v] || y[u][v];
                }
            }
            return r;
        }

        private boolean[][] follow(boolean[][] x, boolean[][] y) {
            boolean[][] r = new boolean[n][n];
            for (int u = 0; u < n; u++) {
                for (int v = 0; v < n; v++) {
                    for (int w = 0; w < n; w++) {
                        r[u][w] |= x[u][v] && y[v][w];
                    }
                }
            }
            return r;
        }

        private boolean[][] often(boolean[][] x) {
            boolean[][] r = new boolean[n][n];
            for (int w = 0; w < n; w++) {
                r[w][w] = true;
            }
            for (int i = 0; i < n; i++) {
                r = unite(r, follow(r, x));
            }
            return r;
        }

        int reachMask(Node p, int w) {
            boolean[][] r = relation(p);
            int mask = 0;
            for (int v = 0; v < n; v++) {
                mask |= r[w][v] ? 1 << v : 0;
            }
            return mask;
        }

        /** The ends of the parts of a trace that runs of a program from its place i can have. */
        private Set<Integer> ends(Node p, int[] programs, int[] worlds, int i) {
            Set<Integer> all = new TreeSet<>();
            switch (p.kind) {
                case ';':
                    for (int j : ends(p.left, programs, worlds, i)) {
                        all.addAll(ends(p.right, programs, worlds, j));
                    }
                    break;
                case '+':
                    all.addAll(ends(p.left, programs, worlds, i));
                    all.addAll(ends(p.right, programs, worlds, i));
                    break;
                case '*':
                    List<Integer> list = new ArrayList<>();
                    list.add(i);
                    for (int k = 0; k < list.size(); k++) {
                        for (int j : ends(p.left, programs, worlds, list.get(k))) {
                            if (!list.contains(j)) {
                                list.add(j);
                            }
                        }
                    }
                    all.addAll(list);
                    break;
                case '?':
                    if (isTrue(p.left, worlds[i])) {
                        all.add(i);
                    }
                    break;
                default:
                    if (i < programs.length && programs[i] == p.kind - 'a') {
                        all.add(i + 1);
                    }
                    break;
            }
            return all;
        }

        /** All sequences of steps of runs, in lexicographic order, as rows of program, world, program, ... */
        List<int[]> sequences(Node p, int from, int to, int steps) {
            List<int[]> all = new ArrayList<>();
            gather(p, to, new int[steps], new int[steps + 1], 0, from, all);
            return all;
        }

        private void gather(Node p, int to, int[] programs, int[] worlds, int i, int world, List<int[]> all) {
            worlds[i] = world;
            if (i == programs.length) {
                if (world == to && ends(p, programs, worlds, 0).contains(i)) {
                    int[] row = new int[2 * i];
                    for (int k = 0; k < i; k++) {
                        row[2 * k] = programs[k];
                        row[2 * k + 1] = worlds[k + 1];
                    }
                    all.add(row);
                }
                return;
            }
            for (int x = 0; x < 3; x++) {
                for (int v = 0; v < n; v++) {
                    if (moves[x][world][v]) {
                        programs[i] = x;
                        gather(p, to, programs, worlds, i + 1, v, all);
                    }
                }
            }
        }

        int iterations(Node p, int from, int to) {
            boolean[][] r = relation(p);
            boolean[][] power = new boolean[n][n];
            for (int w = 0; w < n; w++) {
                power[w][w] = true;
            }
            for (int k = 0; k <= n; k++) {
                if (power[from][to]) {
                    return k;
                }
                power = follow(power, r);
            }
            return -5;
        }

        int cycles(Node p) {
            boolean[][] r = runs(p)[1];
            int mask = 0;
            for (int w = 0; w < n; w++) {
                mask |= r[w][w] ? 1 << w : 0;
            }
            return mask;
        }

        /** The largest bisimulation, from all pairs down; a class is given by its smallest world. */
        int[] bisimulation() {
            boolean[][] same = new boolean[n][n];
            for (int u = 0; u < n; u++) {
                for (int v = 0; v < n; v++) {
                    same[u][v] = java.util.Arrays.equals(letters[u], letters[v]);
                }
            }
            for (int round = 0; round < n * n + 1; round++) {
                for (int u = 0; u < n; u++) {
                    for (int v = 0; v < n; v++) {
                        same[u][v] &= simulates(u, v, same) && simulates(v, u, same);
                    }
                }
            }
            return classes(same);
        }

        private boolean simulates(int u, int v, boolean[][] same) {
            for (int x = 0; x < 3; x++) {
                for (int to = 0; to < n; to++) {
                    boolean found = !moves[x][u][to];
                    for (int w = 0; w < n; w++) {
                        found |= moves[x][v][w] && same[to][w];
                    }
                    if (!found) {
                        return false;
                    }
                }
            }
            return true;
        }

        private int[] classes(boolean[][] same) {
            int[] classes = new int[n];
            int next = 0;
            for (int u = 0; u < n; u++) {
                classes[u] = -1;
                for (int v = 0; v < u && classes[u] < 0; v++) {
                    if (same[u][v]) {
                        classes[u] = classes[v];
                    }
                }
                if (classes[u] < 0) {
                    classes[u] = next++;
                }
            }
            return classes;
        }

        int[] filterClasses(List<Node> closure) {
            boolean[][] same = new boolean[n][n];
            for (boolean[] row : same) {
                java.util.Arrays.fill(row, true);
            }
            for (Node g : closure) {
                int mask = mask(g);
                for (int u = 0; u < n; u++) {
                    for (int v = 0; v < n; v++) {
                        same[u][v] &= (mask >> u & 1) == (mask >> v & 1);
                    }
                }
            }
            return classes(same);
        }

        World filtered(List<Node> closure) {
            int[] classes = filterClasses(closure);
            int number = 0;
            for (int c : classes) {
                number = Math.max(number, c + 1);
            }
            World x = new World(number);
            for (int w = 0; w < n; w++) {
                for (int j = 0; j < 4; j++) {
                    if (closure.contains(new Node((char) ('p' + j), null, null))) {
                        x.letters[classes[w]][j] = letters[w][j];
                    }
                }
                for (int k = 0; k < 3; k++) {
                    for (int v = 0; v < n; v++) {
                        if (moves[k][w][v]) {
                            x.moves[k][classes[w]][classes[v]] = true;
                        }
                    }
                }
            }
            return x;
        }
    }

    // ---- closures

    static List<Node> closure(Node f) {
        Set<Node> seen = new HashSet<>();
        List<Node> all = new ArrayList<>();
        all.add(f);
        seen.add(f);
        for (int i = 0; i < all.size(); i++) {
            for (Node g : brought(all.get(i))) {
                if (seen.add(g)) {
                    all.add(g);
                }
            }
        }
        all.sort(Reference::order);
        return all;
    }

    static List<Node> brought(Node f) {
        if (f.kind == '-') {
            return List.of(f.left, f.right);
        }
        if (f.kind != '[') {
            return List.of();
        }
        Node p = f.left;
        Node g = f.right;
        return switch (p.kind) {
            case ';' -> List.of(box(p.left, box(p.right, g)));
            case '+' -> List.of(box(p.left, g), box(p.right, g));
            case '*' -> List.of(g, box(p.left, f));
            case '?' -> List.of(p.left, g);
            default -> List.of(g);
        };
    }

    static boolean isBase(Node f) {
        return f.kind >= 'p' && f.kind <= 's' || f.kind == '[' && f.left.kind >= 'a' && f.left.kind <= 'c';
    }

    static int bases(List<Node> closure) {
        int total = 0;
        for (Node f : closure) {
            total += isBase(f) ? 1 : 0;
        }
        return total;
    }

    // ---- unfolding

    /** The formula after a step, or null. */
    static Node unfold(Node f) {
        if (f.kind == '-') {
            Node left = unfold(f.left);
            if (left != null) {
                return new Node('-', left, f.right);
            }
            Node right = unfold(f.right);
            return right == null ? null : new Node('-', f.left, right);
        }
        if (f.kind != '[') {
            return null;
        }
        Node p = f.left;
        Node g = f.right;
        switch (p.kind) {
            case ';':
                return box(p.left, box(p.right, g));
            case '+':
                return and(box(p.left, g), box(p.right, g));
            case '*':
                return and(g, box(p.left, f));
            case '?':
                return new Node('-', p.left, g);
            default:
                Node body = unfold(g);
                return body == null ? null : box(p, body);
        }
    }

    static Node unroll(Node f, int n) {
        if (f == null) {
            return null;
        }
        if (f.kind == '*') {
            return bounded(unroll(f.left, n), n);
        }
        return new Node(f.kind, unroll(f.left, n), unroll(f.right, n));
    }

    private static Node bounded(Node p, int k) {
        Node stop = new Node('?', not(FALSE), null);
        return k == 0 ? stop : new Node('+', stop, new Node(';', p, bounded(p, k - 1)));
    }

    // ---- validity: the worlds are sets of closure members, and those that lie are taken away

    static final class Types {
        final List<Node> closure;
        final List<Map<Node, Boolean>> types = new ArrayList<>();
        private final Map<Node, boolean[][]> relations = new HashMap<>();

        Types(Node f) {
            closure = closure(f);
            List<Node> base = closure.stream().filter(Reference::isBase).toList();
            for (int code = 0; code < 1 << base.size(); code++) {
                Map<Node, Boolean> type = new HashMap<>();
                for (int i = 0; i < base.size(); i++) {
                    type.put(base.get(i), (code >> i & 1) == 1);
                }
                for (Node g : closure) {
                    if (!isBase(g)) {
                        type.put(g, !falseReachable(g, type, new HashSet<>()));
                    }
                }
                types.add(type);
            }
            while (takeAway()) {
                relations.clear();
            }
        }

        /** Whether the truth of the base members makes a formula false, without a step of any program. */
        private static boolean falseReachable(Node f, Map<Node, Boolean> type, Set<Node> open) {
            if (isBase(f)) {
                return !type.get(f);
            }
            if (f.kind == '0') {
                return true;
            }
            if (f.kind == '-') {
                return !falseReachable(f.left, type, new HashSet<>()) && falseReachable(f.right, type, new HashSet<>());
            }
            if (!open.add(f)) {
                return false;
            }
            if (f.left.kind == '?') {
                return !falseReachable(f.left.left, type, new HashSet<>()) && falseReachable(f.right, type, open);
            }
            for (Node g : brought(f)) {
                if (falseReachable(g, type, open)) {
                    return true;
                }
            }
            return false;
        }

        private boolean takeAway() {
            int n = types.size();
            List<Map<Node, Boolean>> left = new ArrayList<>();
            for (int i = 0; i < n; i++) {
                boolean good = true;
                for (Node g : closure) {
                    if (g.kind == '[' && !types.get(i).get(g)) {
                        boolean[][] r = relation(g.left);
                        boolean found = false;
                        for (int j = 0; j < n && !found; j++) {
                            found = r[i][j] && !types.get(j).get(g.right);
                        }
                        good &= found;
                    }
                }
                if (good) {
                    left.add(types.get(i));
                }
            }
            boolean changed = left.size() != n;
            types.clear();
            types.addAll(left);
            return changed;
        }

        private boolean[][] relation(Node p) {
            boolean[][] r = relations.get(p);
            if (r == null) {
                r = fresh(p);
                relations.put(p, r);
            }
            return r;
        }

        private boolean[][] fresh(Node p) {
            int n = types.size();
            boolean[][] r = new boolean[n][n];
            switch (p.kind) {
                case ';': {
                    boolean[][] x = relation(p.left);
                    boolean[][] y = relation(p.right);
                    join(x, y, r);
                    return r;
                }
                case '+': {
                    boolean[][] x = relation(p.left);
                    boolean[][] y = relation(p.right);
                    for (int i = 0; i < n; i++) {
                        for (int j = 0; j < n; j++) {
                            r[i][j] = x[i][j] || y[i][j];
                        }
                    }
                    return r;
                }
                case '*': {
                    boolean[][] x = relation(p.left);
                    for (int i = 0; i < n; i++) {
                        for (int j = 0; j < n; j++) {
                            r[i][j] = x[i][j] || i == j;
                        }
                    }
                    for (int k = 0; k < n; k++) {
                        for (int i = 0; i < n; i++) {
                            for (int j = 0; r[i][k] && j < n; j++) {
                                r[i][j] |= r[k][j];
                            }
                        }
                    }
                    return r;
                }
                case '?':
                    for (int i = 0; i < n; i++) {
                        r[i][i] = types.get(i).get(p.left);
                    }
                    return r;
                default:
                    for (int i = 0; i < n; i++) {
                        for (int j = 0; j < n; j++) {
                            r[i][j] = mayFollow(p, types.get(i), types.get(j));
                        }
                    }
                    return r;
            }
        }

        private static void join(boolean[][] x, boolean[][] y, boolean[][] r) {
            for (int i = 0; i < r.length; i++) {
                for (int k = 0; k < r.length; k++) {
                    for (int j = 0; x[i][k] && j < r.length; j++) {
                        r[i][j] |= y[k][j];
                    }
                }
            }
        }

        private boolean mayFollow(Node x, Map<Node, Boolean> from, Map<Node, Boolean> to) {
            for (Node g : closure) {
                if (g.kind == '[' && g.left.equals(x) && from.get(g) && !to.get(g.right)) {
                    return false;
                }
            }
            return true;
        }

        /** Whether the types that are left are a model in which every member is true just where it is meant to be. */
        boolean isModel() {
            int n = types.size();
            for (Node g : closure) {
                for (int i = 0; i < n; i++) {
                    boolean truth = types.get(i).get(g);
                    boolean real;
                    if (g.kind == '0') {
                        real = false;
                    } else if (g.kind == '-') {
                        real = !types.get(i).get(g.left) || types.get(i).get(g.right);
                    } else if (g.kind == '[') {
                        real = true;
                        boolean[][] r = relation(g.left);
                        for (int j = 0; j < n; j++) {
                            real &= !r[i][j] || types.get(j).get(g.right);
                        }
                    } else {
                        real = truth;
                    }
                    if (real != truth) {
                        return false;
                    }
                }
            }
            return true;
        }

        boolean everywhere(Node f) {
            return types.stream().allMatch(t -> t.get(f));
        }

        boolean somewhere(Node f) {
            return types.stream().anyMatch(t -> t.get(f));
        }
    }
}
