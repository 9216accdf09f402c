import java.util.List;
import java.util.Random;

/** Random models and formulas: every query of the class against the plain definitions of Reference. */
public final class ReferenceTest {
    private final Random random;
    private final String name;
    private DynamicLogicProver x = new DynamicLogicProver();
    private final Reference.Node[] formulas = new Reference.Node[12];
    private int used;
    private Reference.World world = new Reference.World(1);
    private final int letters;
    private final int programs;

    private ReferenceTest(long seed) {
        random = new Random(seed);
        name = "seed " + seed + " ";
        letters = 1 + random.nextInt(random.nextInt(3) == 0 ? 4 : 2);
        programs = 1 + random.nextInt(random.nextInt(3) == 0 ? 3 : 2);
    }

    public static void main(String[] args) {
        int first = args.length > 0 ? Integer.parseInt(args[0]) : 0;
        int seeds = args.length > 1 ? Integer.parseInt(args[1]) : 400;
        for (int seed = first; seed < first + seeds && Check.wrong() < 20; seed++) {
            new ReferenceTest(seed).all();
        }
        Check.finish();
    }

    private void all() {
        texts();
        model();
        int wanted = 3 + random.nextInt(4);
        for (int tries = 0; tries < 50 && used < wanted; tries++) {
            formula();
        }
        for (int f = 0; f < used; f++) {
            truths(f);
            closures(f);
            filters(f);
            decisions(f);
            if (formulas[f].kind() == '[') {
                runs(f);
            } else {
                Check.due(name + "reach", x.reach(f, 0), -3);
                Check.due(name + "cycles", x.cycles(f), -3);
            }
        }
        pairs();
        for (int f = 0; f < used; f++) {
            rewrites(f);
        }
        spaces();
    }

    /** Texts with and without faults, in objects of their own. */
    private void texts() {
        for (int i = 0; i < 6; i++) {
            String text = randomF(random.nextInt(5));
            StringBuilder changed = new StringBuilder(text);
            for (int k = random.nextInt(3); k > 0 && changed.length() > 0; k--) {
                int place = random.nextInt(changed.length());
                char c = "01pqrs!&|-[]<>()abc;+*?x".charAt(random.nextInt(24));
                int how = random.nextInt(3);
                if (how == 0) {
                    changed.setCharAt(place, c);
                } else if (how == 1) {
                    changed.insert(place, c);
                } else {
                    changed.deleteCharAt(place);
                }
            }
            if (random.nextInt(4) == 0) {
                changed.insert(0, "!(<a>[b](".substring(0, 1).repeat(random.nextInt(13)));
            }
            if (changed.length() > 100) {
                changed.setLength(100);
            }
            String last = changed.toString();
            DynamicLogicProver y = new DynamicLogicProver();
            Object due = Reference.parse(last);
            int got = Check.parse(y, last);
            if (due instanceof Integer fault) {
                Check.due(name + "parse " + last, got, -10 - fault);
            } else {
                Reference.Node node = (Reference.Node) due;
                boolean fits = node.size() <= 80 && node.height() <= 3;
                Check.due(name + "parse " + last, got, fits ? 0 : -5);
                if (fits) {
                    Check.dueText(name + "text " + last, Check.text(y, 0), node.text());
                    Check.due(name + "size " + last, y.formulaSize(0), node.size());
                    Check.due(name + "height " + last, y.starHeight(0), node.height());
                }
            }
            Check.due(name + "buffer", y.count(3), 0);
        }
    }

    private void model() {
        int n = 1 + random.nextInt(6);
        world = new Reference.World(n);
        x.setWorlds(n);
        int density = 1 + random.nextInt(5);
        for (int w = 0; w < n; w++) {
            for (int j = 0; j < 4; j++) {
                boolean value = random.nextInt(2) == 0;
                world.letters[w][j] = value;
                Check.due(name + "setLetter", x.setLetter(w, j, value), 0);
            }
            for (int k = 0; k < 3; k++) {
                for (int v = 0; v < n; v++) {
                    boolean present = random.nextInt(6) < density && random.nextInt(2) == 0;
                    world.moves[k][w][v] = present;
                    Check.due(name + "setTransition", x.setTransition(k, w, v, present), 0);
                }
            }
        }
        sameModel();
        int[] classes = world.bisimulation();
        int number = 0;
        for (int w = 0; w < n; w++) {
            number = Math.max(number, classes[w] + 1);
            Check.due(name + "bisimulationClass " + w, x.bisimulationClass(w), classes[w]);
        }
        Check.due(name + "bisimulationClasses", x.bisimulationClasses(), number);
    }

    private void sameModel() {
        int transitions = 0;
        for (int w = 0; w < world.n; w++) {
            int mask = 0;
            for (int j = 0; j < 4; j++) {
                mask |= world.letters[w][j] ? 1 << j : 0;
            }
            Check.due(name + "letters " + w, x.letters(w), mask);
            for (int k = 0; k < 3; k++) {
                int to = 0;
                for (int v = 0; v < world.n; v++) {
                    to |= world.moves[k][w][v] ? 1 << v : 0;
                }
                transitions += Integer.bitCount(to);
                Check.due(name + "successors " + k + " " + w, x.successors(k, w), to);
            }
        }
        Check.due(name + "worlds", x.count(0), world.n);
        Check.due(name + "transitions", x.count(1), transitions);
    }

    private void formula() {
        String text = random.nextInt(2) == 0
                ? "[" + randomP(1 + random.nextInt(4)) + "]" + randomU(1)
                : randomF(1 + random.nextInt(4));
        if (text.length() > 100) {
            return;
        }
        Reference.Node node = (Reference.Node) Reference.parse(text);
        boolean fits = node.size() <= 80 && node.height() <= 3;
        Check.due(name + "parse " + text, Check.parse(x, text), fits ? used : -5);
        if (fits) {
            formulas[used] = node;
            used++;
        }
    }

    private String randomF(int depth) {
        int pick = random.nextInt(5);
        if (depth <= 0 || pick == 0) {
            return randomU(depth);
        }
        String[] signs = {"-", "|", "&", "-"};
        String sign = signs[random.nextInt(4)];
        String left = randomU(depth - 1);
        return left + sign + (random.nextBoolean() ? randomF(depth - 1) : randomU(depth - 1));
    }

    private String randomU(int depth) {
        if (depth <= 0) {
            int pick = random.nextInt(8);
            return pick == 0 ? "0" : pick == 1 ? "1" : String.valueOf((char) ('p' + random.nextInt(letters)));
        }
        return switch (random.nextInt(6)) {
            case 0 -> "!" + randomU(depth - 1);
            case 1, 2 -> "[" + randomP(depth - 1) + "]" + randomU(depth - 1);
            case 3 -> "<" + randomP(depth - 1) + ">" + randomU(depth - 1);
            case 4 -> "(" + randomF(depth - 1) + ")";
            default -> randomU(0);
        };
    }

    private String randomP(int depth) {
        if (depth <= 0) {
            return String.valueOf((char) ('a' + random.nextInt(programs)));
        }
        return switch (random.nextInt(7)) {
            case 0 -> "?" + randomU(random.nextInt(depth + 1) - 1);
            case 1 -> randomP(depth - 1) + ";" + randomB(depth - 1);
            case 2 -> randomP(depth - 1) + "+" + randomB(depth - 1);
            case 3, 4 -> randomB(depth - 1) + "*";
            case 5 -> "(" + randomP(depth - 1) + ")*;" + randomB(depth - 1);
            default -> randomP(0);
        };
    }

    private String randomB(int depth) {
        return depth <= 0 ? randomP(0) : "(" + randomP(depth) + ")";
    }

    private void truths(int f) {
        int mask = world.mask(formulas[f]);
        Check.due(name + "extension " + f, x.extension(f), mask);
        for (int w = 0; w < world.n; w++) {
            Check.due(name + "holds " + f + " " + w, x.holds(f, w), mask >> w & 1);
        }
    }

    private void closures(int f) {
        List<Reference.Node> closure = Reference.closure(formulas[f]);
        Check.due(name + "closureSize " + f, x.closureSize(f), closure.size());
        Check.due(name + "baseMembers " + f, x.baseMembers(f), Reference.bases(closure));
        Check.isTrue(name + "closure below size", closure.size() <= formulas[f].size());
        for (int g = 0; g < used; g++) {
            int place = closure.indexOf(formulas[g]);
            Check.due(name + "closureIndex " + f + " " + g, x.closureIndex(f, g), place < 0 ? -5 : place);
        }
        int w = random.nextInt(world.n);
        int total = 0;
        for (Reference.Node g : closure) {
            total += world.isTrue(g, w) ? 1 : 0;
        }
        Check.due(name + "trueMembers " + f, x.trueMembers(f, w), total);
        for (int i = -1; i <= closure.size(); i++) {
            boolean exists = i >= 0 && i < closure.size() && closure.get(i).size() <= 80;
            int got = x.storeMember(f, i);
            Check.due(name + "storeMember " + f + " " + i, got, exists ? used : -5);
            if (exists) {
                Check.dueText(name + "member " + i, Check.text(x, got), closure.get(i).text());
                Check.due(name + "member's place " + i, x.closureIndex(f, got), i);
                x.dropFormula();
            }
        }
    }

    private void filters(int f) {
        List<Reference.Node> closure = Reference.closure(formulas[f]);
        int[] classes = world.filterClasses(closure);
        Reference.World small = world.filtered(closure);
        Check.due(name + "filterClasses " + f, x.filterClasses(f), small.n);
        for (int w = 0; w < world.n; w++) {
            Check.due(name + "filterClass " + f + " " + w, x.filterClass(f, w), classes[w]);
        }
        for (int c = -1; c <= small.n; c++) {
            boolean exists = c >= 0 && c < small.n;
            for (int k = 0; k < 3; k++) {
                int mask = 0;
                for (int v = 0; exists && v < small.n; v++) {
                    mask |= small.moves[k][c][v] ? 1 << v : 0;
                }
                Check.due(name + "filterSuccessors " + f, x.filterSuccessors(f, k, c), exists ? mask : -1);
            }
            for (int g = 0; g < used; g++) {
                int due = !exists ? -1 : small.isTrue(formulas[g], c) ? 1 : 0;
                Check.due(name + "filterHolds " + f + " " + g + " " + c, x.filterHolds(f, g, c), due);
            }
        }
        x.save();
        Check.due(name + "applyFilter " + f, x.applyFilter(f), small.n);
        Reference.World whole = world;
        world = small;
        sameModel();
        world = whole;
        x.restore();
        sameModel();
    }

    private void decisions(int f) {
        List<Reference.Node> closure = Reference.closure(formulas[f]);
        if (Reference.bases(closure) > 8) {
            Check.due(name + "isValid " + f, x.isValid(f), -4);
            Check.due(name + "isSatisfiable " + f, x.isSatisfiable(f), -4);
        } else if (Reference.bases(closure) <= 6 || random.nextInt(3) == 0) {
            Reference.Types types = new Reference.Types(formulas[f]);
            Check.isTrue(name + "a model " + f, types.isModel());
            boolean valid = types.everywhere(formulas[f]);
            Check.due(name + "isValid " + formulas[f].text(), x.isValid(f), valid ? 1 : 0);
            boolean possible = types.somewhere(formulas[f]);
            Check.due(name + "isSatisfiable " + formulas[f].text(), x.isSatisfiable(f), possible ? 1 : 0);
            int mask = world.mask(formulas[f]);
            Check.isTrue(name + "valid, so true", !valid || mask == (1 << world.n) - 1);
            Check.isTrue(name + "true, so satisfiable", possible || mask == 0);
        }
    }

    private void runs(int f) {
        Reference.Node p = formulas[f].left();
        Check.due(name + "cycles " + f, x.cycles(f), world.cycles(p));
        int degree = 0;
        for (int w = 0; w < world.n; w++) {
            degree = Math.max(degree, Integer.bitCount(x.successors(0, w)) + Integer.bitCount(x.successors(1, w))
                    + Integer.bitCount(x.successors(2, w)));
        }
        int longest = degree <= 1 ? 8 : degree <= 2 ? 7 : degree <= 4 ? 4 : degree <= 8 ? 3 : 2;
        for (int from = 0; from < world.n; from++) {
            int reached = world.reachMask(p, from);
            Check.due(name + "reach " + f + " " + from, x.reach(f, from), reached);
            for (int to = 0; to < world.n; to++) {
                String what = name + formulas[f].text() + " " + from + " " + to + " ";
                int due = p.kind() == '*' ? world.iterations(p.left(), from, to) : -3;
                Check.due(what + "iterations", x.iterations(f, from, to), due);
                paths(f, from, to, longest, (reached >> to & 1) == 1);
            }
        }
    }

    private void paths(int f, int from, int to, int longest, boolean reached) {
        String what = name + formulas[f].text() + " " + from + " " + to + " ";
        boolean found = false;
        for (int steps = 0; steps <= longest; steps++) {
            List<int[]> rows = world.sequences(formulas[f].left(), from, to, steps);
            Check.due(what + "runCount " + steps, x.runCount(f, from, to, steps), rows.size());
            if (!found && !rows.isEmpty()) {
                found = true;
                Check.due(what + "runSteps", x.runSteps(f, from, to), steps);
                for (int i = 0; i < steps; i++) {
                    Check.due(what + "program " + i, x.runStep(f, from, to, i, 0), rows.get(0)[2 * i]);
                    Check.due(what + "world " + i, x.runStep(f, from, to, i, 1), rows.get(0)[2 * i + 1]);
                }
                Check.due(what + "step after the last", x.runStep(f, from, to, steps, 0), -5);
            }
        }
        int got = x.runSteps(f, from, to);
        Check.isTrue(what + "reach and runSteps", reached == (got >= 0));
        Check.isTrue(what + "runSteps " + got, found || got == -5 || got > longest);
    }

    private void pairs() {
        for (int f = 0; f < used; f++) {
            for (int g = 0; g < used; g++) {
                int order = Reference.order(formulas[f], formulas[g]);
                Check.due(name + "compareFormulas", x.compareFormulas(f, g), order < 0 ? 0 : order == 0 ? 1 : 2);
            }
        }
        for (int tries = 0; tries < 2 && used > 0; tries++) {
            int f = random.nextInt(used);
            int g = random.nextInt(used);
            Reference.Node whole = new Reference.Node('-', formulas[f], formulas[g]);
            int bases = Reference.bases(Reference.closure(whole));
            if (bases > 8) {
                Check.due(name + "entails", x.entails(f, g), -4);
            } else if (bases <= 6 || random.nextInt(3) == 0) {
                Reference.Types types = new Reference.Types(whole);
                Check.due(name + "entails", x.entails(f, g), types.everywhere(whole) ? 1 : 0);
            }
        }
        for (int w = 0; w < world.n; w++) {
            for (int v = 0; v < world.n; v++) {
                int best = -5;
                for (int f = 0; f < used; f++) {
                    boolean differs = world.isTrue(formulas[f], w) != world.isTrue(formulas[f], v);
                    if (differs && (best < 0 || Reference.order(formulas[f], formulas[best]) < 0)) {
                        best = f;
                    }
                }
                Check.due(name + "distinguish " + w + " " + v, x.distinguish(w, v), best);
            }
        }
    }

    private void rewrites(int f) {
        Reference.Node step = Reference.unfold(formulas[f]);
        boolean fits = step != null && step.size() <= 80;
        int got = x.unfold(f);
        Check.due(name + "unfold " + formulas[f].text(), got, fits ? used : -5);
        if (fits) {
            Check.dueText(name + "unfolded", Check.text(x, got), step.text());
            Check.due(name + "same truth", x.extension(got), x.extension(f));
            x.dropFormula();
        }
        for (int n = 0; n <= 3; n++) {
            Reference.Node rolled = Reference.unroll(formulas[f], n);
            got = x.unroll(f, n);
            Check.due(name + "unroll " + formulas[f].text() + " " + n, got, rolled.size() <= 80 ? used : -5);
            if (rolled.size() <= 80) {
                Check.dueText(name + "unrolled", Check.text(x, got), rolled.text());
                x.dropFormula();
            }
        }
    }

    private void spaces() {
        int w = 1 + random.nextInt(3);
        int k = random.nextInt(3);
        int m = random.nextInt(3);
        if (used == 0 || w * k + w * w * m > (random.nextInt(8) == 0 ? 10 : 7)) {
            return;
        }
        int f = random.nextInt(used);
        int total = 0;
        int first = -5;
        for (int code = 0; code < 1 << w * k + w * w * m; code++) {
            if (!Reference.World.ofCode(w, k, m, code).isTrue(formulas[f], 0)) {
                total++;
                first = first < 0 ? code : first;
            }
        }
        Check.due(name + "counterModels " + f, x.counterModels(f, w, k, m), total);
        Check.due(name + "firstCounterModel " + f, x.firstCounterModel(f, w, k, m), first);
        sameModel();
        int code = random.nextInt(1 << w * k + w * w * m);
        Check.due(name + "loadModel", x.loadModel(w, k, m, code), w);
        world = Reference.World.ofCode(w, k, m, code);
        sameModel();
        for (int g = 0; g < used; g++) {
            truths(g);
        }
    }
}
