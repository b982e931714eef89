import java.util.ArrayList;
import java.util.List;
import java.util.Random;

/** Runs of chosen calls, by fixed seeds, on a HookBoard and on the Model: each answer must be the same. */
public final class ModelTest {
    private static final int RUNS = 1500;
    private static final int CALLS = 400;

    private final Check check = new Check();
    private final Random random;
    private final HookBoard x = new HookBoard();
    private final Model m = new Model();
    private String label = "";

    private ModelTest(long seed) {
        random = new Random(seed);
    }

    public static void main(String[] args) {
        int texts = 0;
        int faults = 0;
        for (int run = 0; run < RUNS; run++) {
            ModelTest test = new ModelTest(run);
            for (int i = 0; i < CALLS; i++) {
                test.label = "run " + run + ", call " + i + ": ";
                test.call(run % 3 == 0);
            }
            if (run % 100 == 99) {
                System.out.println((run + 1) + " runs");
            }
            test.check.stopIfWrong();
        }
        for (int seed = 0; seed < 60000; seed++) {
            ModelTest test = new ModelTest(seed);
            test.label = "text " + seed + ": ";
            texts++;
            faults += test.text(2) ? 0 : 1;
            test.check.stopIfWrong();
        }
        System.out.println(texts + " texts, " + faults + " with a fault");
        new Check().finish();
    }

    private void due(String call, long got, long want) {
        check.due(label + call, got, want);
    }

    private int pick(int low, int high) {
        return low + random.nextInt(high - low + 1);
    }

    /** Most often of the range, now and then just beside it. */
    private int near(int low, int high) {
        int n = random.nextInt(40);
        if (n == 0) {
            return low - 1;
        }
        if (n == 1) {
            return high + 1;
        }
        return n < 5 ? (n % 2 == 0 ? low : high) : high < low ? low : pick(low, high);
    }

    private static boolean in(int n, int low, int high) {
        return n >= low && n <= high;
    }

    private void call(boolean manyRounds) {
        int cells = m.wide * m.high;
        switch (random.nextInt(manyRounds ? 40 : 36)) {
            case 0 -> {
                if (random.nextInt(8) == 0 || m.kinds.isEmpty()) {
                    text(random.nextInt(4) == 0 ? 1 : 0);
                }
            }
            case 1, 2, 3, 4 -> {
                int cell = near(0, cells - 1);
                int kind = near(0, m.kinds.size() - 1);
                int slack = random.nextBoolean() ? near(0, 99) : pick(0, 3);
                boolean can = in(cell, 0, cells - 1) && in(kind, 0, m.kinds.size() - 1) && in(slack, 0, 99);
                due("hook", x.hook(cell, kind, slack), m.act(can, "hook", cell, kind, slack, 0));
            }
            case 5, 6, 7, 8 -> {
                int cell = near(0, cells - 1);
                int n = near(0, 9);
                boolean can = in(cell, 0, cells - 1) && in(n, 0, 9);
                due("loops", x.loops(cell, n), m.act(can, "loops", cell, n, 0, 0));
            }
            case 9, 36, 37 -> {
                int n = near(1, 10);
                int press = near(0, 99);
                int shake = near(0, 99);
                int seed = random.nextInt();
                boolean can = in(n, 1, 10) && in(press, 0, 99) && in(shake, 0, 99) && seed >= 0;
                due("rounds", x.rounds(n, press, shake, seed), m.act(can, "rounds", n, press, shake, seed));
            }
            case 10 -> due("wash", x.wash(), m.act(true, "wash", 0, 0, 0, 0));
            case 11 -> {
                int act = near(1, m.acts.size());
                due("annul " + act, x.annul(act), m.annul(act));
            }
            case 12 -> as();
            case 13, 14, 38 -> cell(near(0, cells - 1));
            case 15, 39 -> list();
            case 16 -> chance(near(0, cells - 1));
            case 17, 18 -> odds();
            case 19, 20, 21 -> draw();
            case 22, 23, 24 -> pull();
            case 25, 26 -> peel();
            case 27, 28, 29 -> patches();
            case 30, 31 -> choose();
            case 32, 33 -> batch();
            case 34 -> all();
            default -> tape();
        }
    }

    /** Whether there was no fault. */
    private boolean text(int wrongs) {
        TextMaker maker = new TextMaker(random);
        String text = maker.text();
        for (int i = 0; i < wrongs; i++) {
            text = maker.spoil(text);
        }
        text = text.substring(0, Math.min(700, text.length()));
        Check.feed(x, text);
        m.tape = new StringBuilder(text);
        int wide = near(1, 8);
        int high = random.nextBoolean() ? near(1, 8) : pick(1, 3);
        due("text " + text, x.text(wide, high), m.text(wide, high));
        due("fault(0) of " + text, x.fault(0), m.fault);
        due("fault(1) of " + text, x.fault(1), m.place);
        for (int k = 0; k <= m.kinds.size(); k++) {
            Model.Kind kind = k < m.kinds.size() ? m.kinds.get(k) : new Model.Kind("", -1, -1, -1, -1);
            int[] want = {kind.stiff(), kind.opens(), kind.tires(), kind.tears(), -1};
            int what = pick(0, 4);
            due("kind", x.kind(k, what), want[what]);
        }
        return m.fault == 0;
    }

    private void as() {
        int act = random.nextInt(3) == 0 ? -1 : near(0, m.acts.size());
        boolean can = in(act, -1, m.acts.size());
        if (can) {
            m.as = act;
        }
        due("as " + act, x.as(act) ? 1 : 0, can ? 1 : 0);
    }

    private void cell(int cell) {
        Model.State s = m.now();
        boolean is = in(cell, 0, s.hooks.length - 1);
        Model.Hook h = is ? s.hooks[cell] : null;
        int[] want = {h == null ? -1 : h.kind, h == null ? -1 : h.slack, h == null ? -1 : h.worn,
            h == null ? -1 : s.stiffness(cell), is ? s.loops[cell] : -1, is ? s.lint[cell] : -1, -1};
        for (int what = 0; what <= 6; what++) {
            due("cell(" + cell + ", " + what + ")", x.cell(cell, what), want[what]);
        }
    }

    private void list() {
        List<Long> list = m.now().list;
        due("listed", x.listed(), list.size());
        for (int k = 0; k <= list.size(); k++) {
            due("list " + k, x.list(k), k < list.size() ? list.get(k) : -1);
        }
        long mark = list.isEmpty() ? 5 : list.get(random.nextInt(list.size())) + pick(0, 1);
        int until = -1;
        for (int k = list.size() - 1; k >= 0; k--) {
            until = list.get(k) < mark ? k : until;
        }
        due("until " + mark, x.until(mark), until);
    }

    private void chance(int cell) {
        int press = near(0, 99);
        int shake = near(0, 99);
        Model.State s = m.now();
        boolean can = in(cell, 0, s.hooks.length - 1) && s.hooks[cell] != null && in(press, 0, 99) && in(shake, 0, 99);
        due("chance " + cell + " " + press + " " + shake, x.chance(cell, press, shake),
            can ? s.chanceOf(cell, press, shake) : -1);
    }

    private void odds() {
        if (random.nextBoolean()) {
            int press = near(0, 99);
            int shake = near(0, 99);
            boolean can = in(press, 0, 99) && in(shake, 0, 99);
            due("table", x.table(press, shake), can ? m.makeTable(press, shake) : -1);
        }
        int hooks = m.table == null ? 0 : m.table.length - 1;
        for (int k = -1; k <= hooks + 1; k++) {
            due("odds " + k, x.odds(k), m.table != null && in(k, 0, hooks) ? m.odds(k) : -1);
        }
        int p = near(1, 1000);
        due("sure " + p, x.sure(p), m.table != null && in(p, 1, 1000) ? m.sure(p) : -1);
    }

    private void draw() {
        int press = near(0, 99);
        int shake = near(0, 99);
        int seed = random.nextInt(9) == 0 ? -1 : random.nextInt(Integer.MAX_VALUE);
        boolean can = in(press, 0, 99) && in(shake, 0, 99) && seed >= 0;
        if (can) {
            m.drawn = new Model.Drawn(m.now(), press, shake, seed);
        }
        due("draw", x.draw(press, shake, seed), can ? m.drawn.held.size() : -1);
        for (int c = -1; c <= m.wide * m.high; c++) {
            Integer flag = m.drawn == null || !in(c, 0, m.drawn.flags.length - 1) ? null : m.drawn.flags[c];
            due("caught " + c, x.caught(c), flag == null ? -1 : flag);
        }
    }

    private void pull() {
        if (random.nextBoolean()) {
            m.pulled = m.drawn == null ? null : new Model.Pulled(m.drawn);
            due("pull", x.pull(), m.pulled == null ? -1 : m.pulled.steps.size());
        }
        due("greatest", x.greatest(), m.pulled == null ? -1 : m.pulled.greatest());
        int steps = m.pulled == null ? 0 : m.pulled.steps.size();
        for (int k = -1; k <= steps; k++) {
            boolean is = in(k, 0, steps - 1);
            due("step " + k, x.step(k), is ? m.pulled.steps.get(k).cell() : -1);
            due("load above " + k, x.load(k, true), is ? m.pulled.above(k) : -1);
            due("load below " + k, x.load(k, false), is ? m.pulled.steps.get(k).stiff() : -1);
            if (is) {
                long load = m.pulled.above(k) / m.pulled.steps.get(k).stiff();
                int weight = (int) load + pick(-1, 1);
                due("hung " + weight, x.hung(weight), weight < 0 ? -1 : m.pulled.hung(weight));
            }
        }
        int weight = near(0, 10000000);
        due("hung " + weight, x.hung(weight),
            m.pulled == null || !in(weight, 0, 10000000) ? -1 : m.pulled.hung(weight));
    }

    private void peel() {
        boolean down = random.nextBoolean();
        int weights = 0;
        boolean can = m.drawn != null;
        for (int j = 0; j < 4; j++) {
            int w = random.nextInt(20) == 0 ? pick(0, 15) : pick(j == 0 ? 1 : 0, 9);
            can &= in(w, j == 0 ? 1 : 0, 9);
            weights |= w << 4 * j;
        }
        due("peel " + down + " " + weights, x.peel(down, weights), can ? m.peel(down, weights) : -1);
        int fronts = m.fronts == null ? 0 : m.fronts.size();
        long work = 0;
        for (int k = -1; k <= fronts; k++) {
            for (int what = -1; what <= 3; what++) {
                boolean is = in(k, 0, fronts - 1) && in(what, 0, 2);
                due("front " + k + " " + what, x.front(k, what), is ? m.fronts.get(k)[what] : -1);
            }
            work += in(k, 0, fronts - 1) ? m.fronts.get(k)[1] : 0;
        }
        due("work", x.work(), m.fronts == null ? -1 : work);
    }

    private void patches() {
        if (random.nextInt(12) == 0) {
            due("clear", x.clear(), m.patches.size());
            m.patches.clear();
            m.forces.clear();
        }
        int size = random.nextBoolean() ? 5 : 999;
        int[] p = {near(0, size == 5 ? 5 : 99), near(1, size), near(1, size)};
        boolean can = in(p[0], 0, 99) && in(p[1], 1, 999) && in(p[2], 1, 999) && m.patches.size() < 12;
        if (can) {
            m.patches.add(p);
        }
        due("patch", x.patch(p[0], p[1], p[2]), can ? m.patches.size() : -1);
        if (random.nextInt(4) == 0) {
            int[] f = {near(0, size == 5 ? 5 : 99), near(1, random.nextInt(20) == 0 ? 9999 : size)};
            boolean may = in(f[0], 0, 99) && in(f[1], 1, 9999) && m.forces.size() < 8;
            if (may) {
                m.forces.add(f);
            }
            due("force", x.force(f[0], f[1]), may ? m.forces.size() : -1);
        }
    }

    private void choose() {
        int reach = random.nextBoolean() ? near(0, 99) : pick(0, 5);
        int open = random.nextBoolean() ? near(0, 20000) : pick(0, 40);
        boolean can = in(reach, 0, 99) && in(open, 0, 20000);
        due("choose", x.choose(reach, open), can ? m.choose(reach, open) : -1);
        for (int k = -1; k <= 12; k++) {
            boolean is = m.chosen != null && in(k, 0, m.chosenOf - 1);
            due("chosen " + k, x.chosen(k), is ? m.chosen.contains(k) ? 1 : 0 : -1);
        }
    }

    private void batch() {
        int all = near(1, 50);
        int bad = near(0, all);
        int tested = near(0, all);
        int k = near(0, tested);
        boolean above = random.nextBoolean();
        boolean batch = in(all, 1, 50) && in(bad, 0, all);
        boolean can = batch && in(tested, 0, all) && in(k, 0, tested);
        due("found", x.found(all, bad, tested, k, above), can ? Model.found(all, bad, tested, k, above) : -1);
        int p = near(1, 1000);
        due("tests", x.tests(all, bad, p), batch && in(p, 1, 1000) ? Model.tests(all, bad, p) : -1);
    }

    private void all() {
        int hooks = 0;
        for (Model.Hook h : m.now().hooks) {
            hooks += h == null ? 0 : 1;
        }
        int[] want = {m.wide * m.high, m.kinds.size(), m.acts.size(), m.as == -1 ? m.acts.size() : m.as, hooks,
            m.patches.size(), m.forces.size()};
        for (int what = -1; what <= 7; what++) {
            due("all " + what, x.all(what), in(what, 0, 6) ? want[what] : -1);
        }
    }

    /** The tape is emptied by the next text(), so what is fed here only tries feed() and end(). */
    private void tape() {
        List<Integer> numbers = new ArrayList<>();
        for (int i = 0; i < 5; i++) {
            numbers.add(random.nextInt());
        }
        boolean can = m.tape.length() + 20 <= 700;
        if (can) {
            m.tape.append("?".repeat(20));
        }
        due("feed", x.feed(numbers.get(0), numbers.get(1), numbers.get(2), numbers.get(3), numbers.get(4)),
            can ? m.tape.length() : -1);
        int n = random.nextInt(5) == 0 ? near(0, m.tape.length()) : m.tape.length();
        boolean may = in(n, 0, m.tape.length());
        if (may) {
            m.tape.setLength(n);
        }
        due("end " + n, x.end(n) ? 1 : 0, may ? 1 : 0);
    }
}
