import java.math.BigInteger;
import java.util.ArrayList;
import java.util.Arrays;
import java.util.Comparator;
import java.util.HashMap;
import java.util.List;
import java.util.Map;
import java.util.Set;

/**
 * The document once more, told as plainly as can be and in other ways than HookBoard does it: all ACTS are replayed
 * for each answer, STRETCHES are fractions, sets of PATCHES are all looked at.
 */
final class Model {
    static final Set<String> OWN = Set.of("kind", "stiff", "opens", "tires", "tears", "catch", "when", "lint", "or",
        "and", "not", "all", "is", "press", "shake", "loops", "worn", "row", "column", "min", "max");

    record Kind(String name, int stiff, int opens, int tires, int tears) { }

    record Rule(String word, Sum sum, Test test) { }

    record Act(String what, int a, int b, int c, int d) { }

    interface Sum {
        long of(Map<String, Integer> hook);
    }

    interface Test {
        boolean of(Map<String, Integer> hook);
    }

    static final class Fault extends RuntimeException {
        private static final long serialVersionUID = 1;
        final int what;
        final int place;

        Fault(int what, int place) {
            this.what = what;
            this.place = place;
        }
    }

    static final class Hook {
        int kind;
        int slack;
        int worn;
    }

    /** The BOARD as known. */
    final class State {
        final Hook[] hooks = new Hook[wide * high];
        final int[] loops = new int[wide * high];
        final int[] lint = new int[wide * high];
        final List<Long> list = new ArrayList<>();

        State(int known) {
            for (int n = 1; n <= known; n++) {
                if (!voided(n, known)) {
                    follow(acts.get(n - 1));
                }
            }
        }

        private boolean voided(int act, int known) {
            for (int n = 1; n <= known; n++) {
                if (acts.get(n - 1).what.equals("void") && acts.get(n - 1).a == act) {
                    return true;
                }
            }
            return false;
        }

        private void follow(Act act) {
            switch (act.what) {
                case "hook" -> {
                    hooks[act.a] = new Hook();
                    hooks[act.a].kind = act.b;
                    hooks[act.a].slack = act.c;
                }
                case "loops" -> loops[act.a] = act.b;
                case "rounds" -> {
                    long seed = act.d;
                    for (int i = 0; i < act.a; i++) {
                        seed = round(act.b, act.c, seed);
                    }
                }
                case "wash" -> {
                    for (int c = 0; c < hooks.length; c++) {
                        lint[c] = 0;
                        if (hooks[c] != null) {
                            hooks[c].worn = Math.min(1000, hooks[c].worn + 10);
                        }
                    }
                }
                default -> { }
            }
        }

        private long round(int press, int shake, long seed) {
            Drawn drawn = new Drawn(this, press, shake, seed);
            list.add(new Pulled(drawn).greatest());
            for (Held held : drawn.held) {
                Hook hook = hooks[held.cell];
                Kind kind = kinds.get(hook.kind);
                hook.worn += (1000 - hook.worn) * kind.tires / 1000;
                if (kind.opens >= kind.tears) {
                    loops[held.cell]--;
                }
            }
            int[] before = lint.clone();
            for (int c = 0; c < hooks.length; c++) {
                if (hooks[c] != null) {
                    long more = first("lint", facts(c, press, shake));
                    lint[c] = (int) Math.max(0, Math.min(9, before[c] + more));
                }
            }
            return drawn.seed;
        }

        Map<String, Integer> facts(int cell, int press, int shake) {
            Map<String, Integer> facts = new HashMap<>();
            facts.put("press", press);
            facts.put("shake", shake);
            facts.put("loops", loops[cell]);
            facts.put("lint", lint[cell]);
            facts.put("worn", hooks[cell].worn);
            facts.put("row", cell / wide);
            facts.put("column", cell % wide);
            facts.put("kind", hooks[cell].kind);
            return facts;
        }

        int chanceOf(int cell, int press, int shake) {
            if (loops[cell] == 0) {
                return 0;
            }
            return (int) Math.max(0, Math.min(1000, first("catch", facts(cell, press, shake))));
        }

        int wide() {
            return wide;
        }

        int high() {
            return high;
        }

        Kind kindOf(int cell) {
            return kinds.get(hooks[cell].kind);
        }

        int stiffness(int cell) {
            return Math.max(1, kinds.get(hooks[cell].kind).stiff * (1000 - hooks[cell].worn) / 1000);
        }
    }

    record Held(int cell, int stiff, int slack, int opens) {
        /** The STRETCH at which it gives, as numerator over stiff. */
        Fraction gives() {
            return new Fraction(slack, 1).plus(new Fraction(opens, stiff));
        }
    }

    record Fraction(BigInteger top, BigInteger bottom) implements Comparable<Fraction> {
        Fraction(long top, long bottom) {
            this(BigInteger.valueOf(top), BigInteger.valueOf(bottom));
        }

        Fraction plus(Fraction o) {
            return new Fraction(top.multiply(o.bottom).add(o.top.multiply(bottom)), bottom.multiply(o.bottom)).small();
        }

        Fraction times(long n) {
            return new Fraction(top.multiply(BigInteger.valueOf(n)), bottom).small();
        }

        private Fraction small() {
            BigInteger d = top.gcd(bottom);
            return d.signum() == 0 ? this : new Fraction(top.divide(d), bottom.divide(d));
        }

        @Override
        public int compareTo(Fraction o) {
            return top.multiply(o.bottom).compareTo(o.top.multiply(bottom));
        }
    }

    /** A DRAW and the HOOKS as they were then. */
    static final class Drawn {
        final Integer[] flags;
        final List<Held> held = new ArrayList<>();
        final int[] rowHold;
        long seed;

        Drawn(State state, int press, int shake, long from) {
            flags = new Integer[state.hooks.length];
            rowHold = new int[state.high()];
            seed = from;
            for (int c = 0; c < flags.length; c++) {
                if (state.hooks[c] != null) {
                    seed = BigInteger.valueOf(1103515245).multiply(BigInteger.valueOf(seed))
                        .add(BigInteger.valueOf(12345)).mod(BigInteger.TWO.pow(31)).longValueExact();
                    flags[c] = (seed >> 8) % 1000 < state.chanceOf(c, press, shake) ? 1 : 0;
                    if (flags[c] == 1) {
                        int opens = state.kindOf(c).opens;
                        held.add(new Held(c, state.stiffness(c), state.hooks[c].slack, opens));
                        rowHold[c / state.wide()] += opens;
                    }
                }
            }
        }
    }

    /** A straight PULL. */
    static final class Pulled {
        final List<Held> steps;

        Pulled(Drawn drawn) {
            steps = new ArrayList<>(drawn.held);
            steps.sort(Comparator.comparing(Held::gives).thenComparing(Held::cell));
        }

        Fraction load(Fraction stretch) {
            Fraction sum = new Fraction(0, 1);
            for (Held h : steps) {
                Fraction over = stretch.plus(new Fraction(-h.slack, 1));
                if (h.gives().compareTo(stretch) >= 0 && over.top.signum() > 0) {
                    sum = sum.plus(over.times(h.stiff));
                }
            }
            return sum;
        }

        long above(int k) {
            Fraction load = load(steps.get(k).gives()).times(steps.get(k).stiff);
            return load.top.divide(load.bottom).longValueExact();
        }

        long greatest() {
            long most = 0;
            for (Held h : steps) {
                Fraction load = load(h.gives());
                most = Math.max(most, load.top.divide(load.bottom).longValueExact());
            }
            return most;
        }

        /** Looks at each stretch at which the slope may change, and solves for the weight in between. */
        int hung(int weight) {
            if (weight == 0) {
                return steps.size();
            }
            List<Fraction> marks = new ArrayList<>();
            for (Held h : steps) {
                marks.add(h.gives());
                marks.add(new Fraction(h.slack, 1));
            }
            marks.sort(null);
            for (Fraction mark : marks) {
                if (load(mark).compareTo(new Fraction(weight, 1)) >= 0) {
                    // the weight is reached behind the mark before: all that give there have gone by then
                    return (int) steps.stream().filter(h -> h.gives().compareTo(mark) >= 0).count();
                }
            }
            return 0;
        }
    }

    int wide = 1;
    int high = 1;
    StringBuilder tape = new StringBuilder();
    List<Kind> kinds = new ArrayList<>();
    List<Rule> rules = new ArrayList<>();
    List<Act> acts = new ArrayList<>();
    int as = -1;
    int fault = 0;
    int place = -1;
    long[] table;
    Drawn drawn;
    Pulled pulled;
    List<int[]> fronts;
    List<int[]> patches = new ArrayList<>();
    List<int[]> forces = new ArrayList<>();
    List<Integer> chosen;
    int chosenOf;

    long first(String word, Map<String, Integer> facts) {
        for (Rule rule : rules) {
            if (rule.word.equals(word) && rule.test.of(facts)) {
                return rule.sum.of(facts);
            }
        }
        return 0;
    }

    State now() {
        return new State(as == -1 ? acts.size() : as);
    }

    int text(int w, int h) {
        ModelText read = new ModelText(tape.toString());
        tape.setLength(0);
        if (w < 1 || w > 8 || h < 1 || h > 8) {
            return -2;
        }
        fault = 0;
        place = -1;
        try {
            read.read();
        } catch (Fault f) {
            fault = f.what;
            place = f.place;
            return -1;
        }
        wide = w;
        high = h;
        kinds = read.kinds;
        rules = read.rules;
        acts = new ArrayList<>();
        as = -1;
        table = null;
        drawn = null;
        pulled = null;
        fronts = null;
        return read.statements;
    }

    int act(boolean can, String what, int a, int b, int c, int d) {
        if (!can || acts.size() == 120) {
            return -1;
        }
        acts.add(new Act(what, a, b, c, d));
        return acts.size();
    }

    int annul(int n) {
        boolean can = n >= 1 && n <= acts.size() && !acts.get(n - 1).what.equals("void")
            && acts.stream().noneMatch(x -> x.what.equals("void") && x.a == n);
        return act(can, "void", n, 0, 0, 0);
    }

    int makeTable(int press, int shake) {
        State s = now();
        long[] row = {1L << 30};
        for (int c = 0; c < s.hooks.length; c++) {
            if (s.hooks[c] != null) {
                long p = s.chanceOf(c, press, shake);
                long[] next = new long[row.length + 1];
                for (int j = 0; j < row.length; j++) {
                    next[j] += row[j] * (1000 - p) / 1000;
                    next[j + 1] += row[j] * p / 1000;
                }
                row = next;
            }
        }
        table = row;
        return row.length - 1;
    }

    long odds(int k) {
        long sum = 0;
        for (int j = k; j < table.length; j++) {
            sum += table[j];
        }
        return sum;
    }

    int sure(int p) {
        int best = 0;
        for (int k = 0; k < table.length; k++) {
            if (odds(k) >= (1L << 30) * p / 1000) {
                best = k;
            }
        }
        return best;
    }

    int peel(boolean down, int weights) {
        int[] w = {weights & 15, weights >> 4 & 15, weights >> 8 & 15, weights >> 12 & 15};
        List<Integer> rows = new ArrayList<>();
        for (int r = 0; r < high; r++) {
            rows.add(down ? rows.size() : 0, r);
        }
        fronts = new ArrayList<>();
        while (!rows.isEmpty()) {
            long s = 0;
            for (int j = 0; j < Math.min(4, rows.size()); j++) {
                s += w[j];
            }
            int front = rows.get(0);
            long force = (long) Math.ceil((double) drawn.rowHold[front] * s / w[0]);
            int went = 0;
            while (went + 1 < Math.min(4, rows.size())
                && Math.floorDiv(force * w[went + 1], s) >= drawn.rowHold[rows.get(went + 1)]) {
                went++;
            }
            fronts.add(new int[] {front, (int) force, went});
            rows = rows.subList(went + 1, rows.size());
        }
        return fronts.size();
    }

    int choose(int reach, int open) {
        List<Integer> best = null;
        for (int set = 0; set < 1 << patches.size(); set++) {
            List<Integer> members = new ArrayList<>();
            for (int i = 0; i < patches.size(); i++) {
                if ((set >> i & 1) == 1) {
                    members.add(i);
                }
            }
            if (holds(members, reach, open) && (best == null || order(members, best) < 0)) {
                best = members;
            }
        }
        if (best == null) {
            return -1;
        }
        chosen = best;
        chosenOf = patches.size();
        return cost(best);
    }

    private int cost(List<Integer> set) {
        return set.stream().mapToInt(i -> patches.get(i)[2]).sum();
    }

    private boolean holds(List<Integer> set, int reach, int open) {
        if (set.stream().mapToInt(i -> patches.get(i)[1]).sum() > open) {
            return false;
        }
        for (int[] force : forces) {
            List<Integer> near = set.stream().filter(i -> Math.abs(patches.get(i)[0] - force[0]) <= reach)
                .map(i -> patches.get(i)[1]).sorted(Comparator.reverseOrder()).toList();
            if (near.stream().skip(1).mapToInt(i -> i).sum() < force[1]) {
                return false;
            }
        }
        return true;
    }

    private int order(List<Integer> a, List<Integer> b) {
        if (cost(a) != cost(b)) {
            return cost(a) - cost(b);
        }
        if (a.size() != b.size()) {
            return a.size() - b.size();
        }
        for (int i = 0; i < a.size(); i++) {
            if (!a.get(i).equals(b.get(i))) {
                return a.get(i) - b.get(i);
            }
        }
        return 0;
    }

    static BigInteger ways(int n, int k) {
        BigInteger[] row = new BigInteger[k + 1];
        Arrays.fill(row, BigInteger.ZERO);
        row[0] = BigInteger.ONE;
        for (int i = 0; i < n; i++) {
            for (int j = k; j > 0; j--) {
                row[j] = row[j].add(row[j - 1]);
            }
        }
        return row[k];
    }

    static long found(int all, int bad, int tested, int k, boolean above) {
        BigInteger sum = BigInteger.ZERO;
        for (int j = above ? k : 0; j <= tested; j++) {
            sum = sum.add(ways(bad, j).multiply(ways(all - bad, tested - j)));
        }
        return sum.longValueExact();
    }

    static int tests(int all, int bad, int p) {
        for (int n = 1; n <= all; n++) {
            BigInteger found = BigInteger.valueOf(found(all, bad, n, 1, true)).multiply(BigInteger.valueOf(1000));
            if (found.compareTo(ways(all, n).multiply(BigInteger.valueOf(p))) >= 0) {
                return n;
            }
        }
        return -1;
    }
}
