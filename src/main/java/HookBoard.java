import java.util.Arrays;

/** A works for hooks and loops; ../shared/DOC.md says what each call does. */
public final class HookBoard {
    public static final int NONE = -1;

    private static final int BAD_BOARD = -2;
    private static final int SIDE = 8;
    private static final int CELLS = SIDE * SIDE;
    private static final int MOST_PRESS = 99;
    private static final int MOST_SLACK = 99;
    private static final int MOST_LOOPS = 9;
    private static final int MOST_ROUNDS = 10;
    private static final int MOST_WEIGHT = 10000000;
    private static final int MOST_PLACE = 99;
    private static final int MOST_BEARS = 999;
    private static final int MOST_FORCE = 9999;
    private static final int MOST_OPEN = 20000;
    private static final int MOST_BATCH = 50;
    private static final int WHOLE = 1000;

    private final Tape tape;
    private final Reader reader;
    private final Acts acts;
    private final Known known;
    private final Odds odds;
    private final Draw draw;
    private final Pull pull;
    private final Peel peel;
    private final Patches patches;
    private Script script;
    private Script spare;
    private int cells;
    private int asAct;
    private int fault;
    private int faultPlace;

    public HookBoard() {
        tape = new Tape();
        acts = new Acts();
        known = new Known();
        odds = new Odds();
        draw = new Draw();
        pull = new Pull();
        peel = new Peel();
        patches = new Patches();
        script = new Script();
        spare = new Script();
        reader = new Reader(tape, spare);
        cells = 1;
        asAct = NONE;
        fault = 0;
        faultPlace = NONE;
        known.begin(1, 1);
    }

    // ---- the text

    public int feed(int a, int b, int c, int d, int e) {
        if (tape.size > Tape.MOST - 20) {
            return NONE;
        }
        tape.addFour(a);
        tape.addFour(b);
        tape.addFour(c);
        tape.addFour(d);
        tape.addFour(e);
        return tape.size;
    }

    public boolean end(int n) {
        if (n < 0 || n > tape.size) {
            return false;
        }
        tape.size = n;
        return true;
    }

    public int text(int wide, int high) {
        boolean canBe = within(wide, 1, SIDE) && within(high, 1, SIDE);
        if (canBe) {
            reader.read(spare);
        }
        // The document lets the tape go whatever the answer is, so no return may stand ahead of this.
        tape.size = 0;
        if (!canBe) {
            return BAD_BOARD;
        }
        fault = reader.fault;
        faultPlace = reader.place;
        if (fault != 0) {
            return NONE;
        }
        // The old one is kept for the next reading, so that no call makes rows anew.
        Script old = script;
        script = spare;
        spare = old;
        beginBoard(wide, high);
        return script.statements;
    }

    private void beginBoard(int wide, int high) {
        cells = wide * high;
        asAct = NONE;
        acts.count = 0;
        known.begin(wide, high);
        odds.made = false;
        draw.made = false;
        pull.made = false;
        peel.made = false;
    }

    public int fault(int what) {
        if (what == 0) {
            return fault;
        }
        return what == 1 ? faultPlace : NONE;
    }

    public int kind(int k, int what) {
        if (!within(k, 0, script.kinds - 1) || !within(what, 0, Script.PER_KIND - 1)) {
            return NONE;
        }
        return script.numberOf(k, what);
    }

    // ---- acts

    public int hook(int cell, int kind, int slack) {
        if (!isCell(cell) || !within(kind, 0, script.kinds - 1) || !within(slack, 0, MOST_SLACK)) {
            return NONE;
        }
        return acts.add(Acts.HOOK, cell, kind, slack, 0);
    }

    public int loops(int cell, int n) {
        if (!isCell(cell) || !within(n, 0, MOST_LOOPS)) {
            return NONE;
        }
        return acts.add(Acts.LOOPS, cell, n, 0, 0);
    }

    public int rounds(int n, int press, int shake, int seed) {
        if (!within(n, 1, MOST_ROUNDS) || !canPress(press, shake) || seed < 0) {
            return NONE;
        }
        return acts.add(Acts.ROUNDS, n, press, shake, seed);
    }

    public int wash() {
        return acts.add(Acts.WASH, 0, 0, 0, 0);
    }

    public int annul(int act) {
        return acts.canVoid(act) ? acts.addVoid(act) : NONE;
    }

    public boolean as(int act) {
        if (!within(act, NONE, acts.count)) {
            return false;
        }
        asAct = act;
        return true;
    }

    public int cell(int cell, int what) {
        if (!isCell(cell)) {
            return NONE;
        }
        Known board = broughtUp();
        boolean hooked = board.hasHook(cell);
        switch (what) {
            case 0:
                return board.kindOf[cell];
            case 1:
                return hooked ? board.slack[cell] : NONE;
            case 2:
                return hooked ? board.worn[cell] : NONE;
            case 3:
                return hooked ? board.stiffnessAt(script, cell) : NONE;
            case 4:
                return board.heap[cell];
            case 5:
                return board.fluff[cell];
            default:
                return NONE;
        }
    }

    public int listed() {
        return broughtUp().greats;
    }

    public long list(int k) {
        Known board = broughtUp();
        return within(k, 0, board.greats - 1) ? board.great[k] : NONE;
    }

    public int until(long mark) {
        Known board = broughtUp();
        for (int k = 0; k < board.greats; k++) {
            if (board.great[k] < mark) {
                return k;
            }
        }
        return NONE;
    }

    // ---- caught ones

    public int chance(int cell, int press, int shake) {
        if (!isCell(cell) || !canPress(press, shake)) {
            return NONE;
        }
        Known board = broughtUp();
        return board.hasHook(cell) ? board.chanceAt(script, cell, press, shake) : NONE;
    }

    public int table(int press, int shake) {
        if (!canPress(press, shake)) {
            return NONE;
        }
        Known board = broughtUp();
        odds.begin();
        for (int cell = 0; cell < cells; cell++) {
            if (board.hasHook(cell)) {
                odds.addHook(board.chanceAt(script, cell, press, shake));
            }
        }
        return odds.hooks;
    }

    public long odds(int k) {
        return odds.made && within(k, 0, odds.hooks) ? odds.from(k) : NONE;
    }

    public int sure(int p) {
        return odds.made && within(p, 1, WHOLE) ? odds.surest(p) : NONE;
    }

    public int draw(int press, int shake, int seed) {
        if (!canPress(press, shake) || seed < 0) {
            return NONE;
        }
        draw.take(broughtUp(), script, press, shake, seed);
        return draw.count;
    }

    public int caught(int cell) {
        return draw.made && isCell(cell) ? draw.held[cell] : NONE;
    }

    // ---- pulls and peels: by the latest draw() that was not NONE

    public int pull() {
        if (!draw.made) {
            return NONE;
        }
        pull.follow(draw);
        return pull.steps;
    }

    public int step(int k) {
        return isStep(k) ? pull.cell[k] : NONE;
    }

    public long load(int k, boolean above) {
        if (!isStep(k)) {
            return NONE;
        }
        return above ? pull.loadAbove(k) : pull.stiff[k];
    }

    public long greatest() {
        return pull.made ? pull.most : NONE;
    }

    public int hung(int weight) {
        return pull.made && within(weight, 0, MOST_WEIGHT) ? pull.holding(weight) : NONE;
    }

    public int peel(boolean down, int weights) {
        if (!draw.made || !Peel.canWeigh(weights)) {
            return NONE;
        }
        peel.follow(draw, down, weights);
        return peel.fronts;
    }

    public int front(int k, int what) {
        if (!peel.made || !within(k, 0, peel.fronts - 1)) {
            return NONE;
        }
        switch (what) {
            case 0:
                return peel.row[k];
            case 1:
                return peel.force[k];
            case 2:
                return peel.went[k];
            default:
                return NONE;
        }
    }

    public long work() {
        return peel.made ? peel.sum : NONE;
    }

    // ---- patches, batches

    public int patch(int place, int bears, int cost) {
        if (!within(place, 0, MOST_PLACE) || !within(bears, 1, MOST_BEARS) || !within(cost, 1, MOST_BEARS)) {
            return NONE;
        }
        return patches.addPatch(place, bears, cost);
    }

    public int force(int place, int force) {
        if (!within(place, 0, MOST_PLACE) || !within(force, 1, MOST_FORCE)) {
            return NONE;
        }
        return patches.addPull(place, force);
    }

    public int clear() {
        int were = patches.count;
        patches.count = 0;
        patches.pulls = 0;
        return were;
    }

    public int choose(int reach, int open) {
        if (!within(reach, 0, MOST_PLACE) || !within(open, 0, MOST_OPEN)) {
            return NONE;
        }
        return patches.pick(reach, open);
    }

    public int chosen(int k) {
        if (!within(k, 0, patches.pickedOf - 1)) {
            return NONE;
        }
        return patches.picked >> k & 1;
    }

    public long found(int all, int bad, int tested, int k, boolean above) {
        if (!isBatch(all, bad) || !within(tested, 0, all) || !within(k, 0, tested)) {
            return NONE;
        }
        if (!above) {
            return ways(all, tested);
        }
        long sum = 0;
        for (int j = k; j <= tested; j++) {
            sum += ways(bad, j) * ways(all - bad, tested - j);
        }
        return sum;
    }

    public int tests(int all, int bad, int p) {
        if (!isBatch(all, bad) || !within(p, 1, WHOLE)) {
            return NONE;
        }
        for (int n = 0; n <= all; n++) {
            long every = ways(all, n);
            long withBad = every - ways(all - bad, n);
            if (withBad * WHOLE >= every * p) {
                return n;
            }
        }
        return NONE;
    }

    public int all(int what) {
        switch (what) {
            case 0:
                return cells;
            case 1:
                return script.kinds;
            case 2:
                return acts.count;
            case 3:
                return toldAct();
            case 4:
                return broughtUp().countHooks();
            case 5:
                return patches.count;
            case 6:
                return patches.pulls;
            default:
                return NONE;
        }
    }

    private int toldAct() {
        return asAct == NONE ? acts.count : asAct;
    }

    /** Replays from the start only if an ACT that was followed does not stand any more. */
    private Known broughtUp() {
        int act = toldAct();
        if (!acts.goesOn(known.at, act)) {
            known.forget();
        }
        for (int n = known.at + 1; n <= act && n <= acts.count; n++) {
            if (acts.stands(n, act)) {
                known.follow(acts, n);
                long seed = acts.fourth[n];
                for (int i = 0; i < acts.roundsOf(n); i++) {
                    seed = known.turn(script, acts.second[n], acts.third[n], seed);
                }
            }
        }
        known.at = act;
        return known;
    }

    private boolean isCell(int cell) {
        return within(cell, 0, cells - 1);
    }

    private boolean isStep(int k) {
        return pull.made && within(k, 0, pull.steps - 1);
    }

    private static boolean canPress(int press, int shake) {
        return within(press, 0, MOST_PRESS) && within(shake, 0, MOST_PRESS);
    }

    private static boolean isBatch(int all, int bad) {
        return within(all, 1, MOST_BATCH) && within(bad, 0, all);
    }

    private static boolean within(int n, int low, int high) {
        return n >= low && n <= high;
    }

    private static int clamp(int n, int low, int high) {
        return Math.max(low, Math.min(high, n));
    }

    /** How many ways there are to pick k of n; each step of the product is a whole number. */
    private static long ways(int n, int k) {
        if (k < 0 || k > n) {
            return 0;
        }
        long product = 1;
        for (int i = 1; i <= k; i++) {
            product = product * (n - k + i) / i;
        }
        return product;
    }

    /** The bytes that were fed. */
    private static final class Tape {
        static final int MOST = 700;

        final byte[] bytes = new byte[MOST];
        int size = 0;

        void addFour(int number) {
            for (int shift = 24; shift >= 0 && size < MOST; shift -= 8) {
                bytes[size] = (byte) (number >>> shift);
                size++;
            }
        }

        /** NONE behind the last byte. */
        int byteAt(int place) {
            return place >= 0 && place < size ? bytes[place] & 255 : NONE;
        }
    }

    /** A text that was read: KINDS, and the catch and lint rules as rows of operations. */
    private static final class Script {
        static final int MOST_KINDS = 8;
        static final int MOST_STATEMENTS = 24;
        static final int PER_KIND = 4;
        static final int STIFF = 0;
        static final int OPENS = 1;
        static final int TIRES = 2;
        static final int TEARS = 3;

        static final int FACT_PRESS = 0;
        static final int FACT_SHAKE = 1;
        static final int FACT_LOOPS = 2;
        static final int FACT_LINT = 3;
        static final int FACT_WORN = 4;
        static final int FACT_ROW = 5;
        static final int FACT_COLUMN = 6;
        static final int FACT_KIND = 7;
        static final int FACTS = 8;

        /** An operation is its code times UNIT and a number below UNIT that goes with it. */
        static final int UNIT = 10000;
        static final int NUMBER = 0;
        static final int FACT = 1;
        static final int IS = 2;
        static final int NOT = 3;
        static final int ADD = 4;
        static final int TAKE = 5;
        static final int TIMES = 6;
        static final int OVER = 7;
        static final int LEAST = 8;
        static final int MOST = 9;
        static final int LESS = 10;
        static final int MORE = 11;
        static final int SAME = 12;
        static final int AND = 13;
        static final int OR = 14;

        static final int LIMIT = 1000000000;
        /** Far above what six brackets in one another can leave open. */
        static final int STACK = 64;

        final long[] names = new long[MOST_KINDS];
        final int[] numbers = new int[MOST_KINDS * PER_KIND];
        final int[] ruleWord = new int[MOST_STATEMENTS];
        final int[] ruleSum = new int[MOST_STATEMENTS];
        final int[] ruleTest = new int[MOST_STATEMENTS];
        final int[] ruleEnd = new int[MOST_STATEMENTS];
        /** No operation comes from less than a byte of its own, so a tape's length is enough. */
        final int[] code = new int[Tape.MOST];
        final int[] facts = new int[FACTS];
        final int[] stack = new int[STACK];
        int kinds = 0;
        int rules = 0;
        int statements = 0;
        int length = 0;

        void empty() {
            kinds = 0;
            rules = 0;
            statements = 0;
            length = 0;
        }

        int numberOf(int kind, int what) {
            return kind >= 0 && kind < kinds ? numbers[kind * PER_KIND + what] : 0;
        }

        int kindNamed(long name) {
            for (int k = 0; k < kinds; k++) {
                if (names[k] == name) {
                    return k;
                }
            }
            return NONE;
        }

        void emit(int operation, int number) {
            if (length < code.length) {
                code[length] = operation * UNIT + number;
                length++;
            }
        }

        /** The SUM of the first rule of a word whose TEST holds for the facts; 0 without one. */
        int sumOf(int word) {
            for (int r = 0; r < rules; r++) {
                if (ruleWord[r] == word && run(ruleTest[r], ruleEnd[r]) != 0) {
                    return run(ruleSum[r], ruleTest[r]);
                }
            }
            return 0;
        }

        /** Each result is limited: those that need no limit lie within it anyway. */
        private int run(int from, int to) {
            int top = 0;
            for (int i = from; i < to; i++) {
                int operation = code[i] / UNIT;
                int taken = operation <= IS ? 0 : operation == NOT ? 1 : 2;
                if (top < taken || top - taken >= STACK) {
                    return 0;
                }
                int b = taken > 0 ? stack[top - 1] : code[i] % UNIT;
                int a = taken > 1 ? stack[top - 2] : 0;
                top -= taken;
                long made = taken > 1 ? joined(operation, a, b) : told(operation, b);
                stack[top] = (int) Math.max(-LIMIT, Math.min(LIMIT, made));
                top++;
            }
            return top < 1 ? 0 : stack[top - 1];
        }

        private int told(int operation, int b) {
            switch (operation) {
                case FACT:
                    return b >= 0 && b < FACTS ? facts[b] : 0;
                case IS:
                    return facts[FACT_KIND] == b ? 1 : 0;
                case NOT:
                    return 1 - b;
                default:
                    return b;
            }
        }

        private static long joined(int operation, int a, int b) {
            switch (operation) {
                case ADD:
                    return (long) a + b;
                case TAKE:
                    return (long) a - b;
                case TIMES:
                    return (long) a * b;
                case OVER:
                    return b == 0 ? 0 : Math.floorDiv(a, b);
                case LEAST:
                    return Math.min(a, b);
                case MOST:
                    return Math.max(a, b);
                case LESS:
                    return a < b ? 1 : 0;
                case MORE:
                    return a > b ? 1 : 0;
                case SAME:
                    return a == b ? 1 : 0;
                case AND:
                    return a & b;
                default:
                    return a | b;
            }
        }
    }

    /** Reads the tape into a Script, up to the first FAULT. */
    private static final class Reader {
        static final int CANT_GO_ON = 1;
        static final int BAD_NUMBER = 2;
        static final int BAD_NAME = 3;
        static final int TOO_DEEP = 4;
        static final int TOO_MANY = 5;

        static final int MOST_DIGITS = 4;
        static final int MOST_LETTERS = 6;
        static final int MOST_DEEP = 6;

        /** Each with a blank behind it; the W_ numbers below count along it. */
        static final String OWN_WORDS =
            "kind stiff opens tires tears catch when or and not all is min max press shake loops lint worn row column ";
        static final int W_KIND = 0;
        static final int W_STIFF = 1;
        static final int W_CATCH = 5;
        static final int W_WHEN = 6;
        static final int W_OR = 7;
        static final int W_AND = 8;
        static final int W_NOT = 9;
        static final int W_ALL = 10;
        static final int W_IS = 11;
        static final int W_MIN = 12;
        static final int W_MAX = 13;
        static final int W_PRESS = 14;
        static final int W_LINT = 17;

        static final int END = 0;
        static final int WORD = 1;
        static final int NUMERAL = 2;
        static final int SIGN = 3;
        /** What no rule takes: a word or number without the blank that it needs. */
        static final int BAD = 4;

        private final Tape tape;
        private Script out;
        private int type;
        private int start;
        private int behind;
        /** Of a WORD its own word's number or NONE, of a SIGN its byte. */
        private int value;
        int fault = 0;
        int place = NONE;

        Reader(Tape tape, Script out) {
            this.tape = tape;
            this.out = out;
        }

        void read(Script script) {
            out = script;
            out.empty();
            fault = 0;
            place = NONE;
            type = SIGN;
            behind = 0;
            next();
            for (int n = 0; n <= Script.MOST_STATEMENTS && fault == 0 && type != END; n++) {
                if (n == Script.MOST_STATEMENTS) {
                    fail(TOO_MANY, start);
                } else if (isWord(W_KIND)) {
                    readKind();
                } else if (isWord(W_CATCH) || isWord(W_LINT)) {
                    readRule();
                } else {
                    fail(CANT_GO_ON, start);
                }
            }
        }

        private void readKind() {
            int kind = out.kinds;
            if (kind >= Script.MOST_KINDS) {
                fail(TOO_MANY, start);
                return;
            }
            next();
            long name = nameHere();
            if (fault == 0 && out.kindNamed(name) != NONE) {
                fail(BAD_NAME, start);
            }
            next();
            for (int what = 0; what < Script.PER_KIND; what++) {
                takeWord(W_STIFF + what);
                out.numbers[kind * Script.PER_KIND + what] = numberFor(what);
                next();
            }
            out.names[kind] = name;
            out.kinds++;
            takeEnd();
        }

        private void readRule() {
            int rule = out.rules;
            if (rule >= Script.MOST_STATEMENTS) {
                fail(TOO_MANY, start);
                return;
            }
            out.ruleWord[rule] = value;
            out.ruleSum[rule] = out.length;
            next();
            readSum(0);
            takeWord(W_WHEN);
            out.ruleTest[rule] = out.length;
            readTest(0);
            out.ruleEnd[rule] = out.length;
            out.rules++;
            takeEnd();
        }

        private void takeEnd() {
            takeSign(';');
            out.statements++;
        }

        /** BOTHs are joined as soon as the next or is met, so that and binds more closely. */
        private void readTest(int deep) {
            boolean open = false;
            readFact(deep);
            for (int n = 0; n < Tape.MOST && (isWord(W_OR) || isWord(W_AND)); n++) {
                boolean both = isWord(W_AND);
                if (!both && open) {
                    out.emit(Script.OR, 0);
                }
                next();
                readFact(deep);
                if (both) {
                    out.emit(Script.AND, 0);
                } else {
                    open = true;
                }
            }
            if (open) {
                out.emit(Script.OR, 0);
            }
        }

        private void readFact(int deep) {
            if (isWord(W_NOT)) {
                if (mayOpen(deep)) {
                    next();
                    readFact(deep + 1);
                    out.emit(Script.NOT, 0);
                }
            } else if (isSign('[')) {
                if (mayOpen(deep)) {
                    next();
                    readTest(deep + 1);
                    takeSign(']');
                }
            } else if (isWord(W_ALL)) {
                out.emit(Script.NUMBER, 1);
                next();
            } else if (isWord(W_IS)) {
                next();
                readIs();
            } else {
                readSum(deep);
                int operation = comparisonHere();
                next();
                readSum(deep);
                out.emit(operation, 0);
            }
        }

        private void readIs() {
            int kind = out.kindNamed(nameHere());
            if (kind == NONE) {
                fail(BAD_NAME, start);
                return;
            }
            out.emit(Script.IS, kind);
            next();
        }

        private int comparisonHere() {
            if (isSign('<')) {
                return Script.LESS;
            }
            if (isSign('>')) {
                return Script.MORE;
            }
            if (!isSign('=')) {
                fail(CANT_GO_ON, start);
            }
            return Script.SAME;
        }

        /** PRODUCTs are joined as soon as the next + or - is met, so that * and / bind more closely. */
        private void readSum(int deep) {
            int waiting = NONE;
            readPart(deep);
            for (int n = 0; n < Tape.MOST && operationHere() != NONE; n++) {
                int operation = operationHere();
                boolean close = operation == Script.TIMES || operation == Script.OVER;
                if (!close && waiting != NONE) {
                    out.emit(waiting, 0);
                }
                next();
                readPart(deep);
                if (close) {
                    out.emit(operation, 0);
                } else {
                    waiting = operation;
                }
            }
            if (waiting != NONE) {
                out.emit(waiting, 0);
            }
        }

        private int operationHere() {
            if (type != SIGN) {
                return NONE;
            }
            switch (value) {
                case '+':
                    return Script.ADD;
                case '-':
                    return Script.TAKE;
                case '*':
                    return Script.TIMES;
                case '/':
                    return Script.OVER;
                default:
                    return NONE;
            }
        }

        private void readPart(int deep) {
            if (type == NUMERAL) {
                out.emit(Script.NUMBER, numeralHere());
                next();
            } else if (type == WORD && value >= W_PRESS) {
                out.emit(Script.FACT, value - W_PRESS);
                next();
            } else if (isSign('(')) {
                if (mayOpen(deep)) {
                    next();
                    readSum(deep + 1);
                    takeSign(')');
                }
            } else if (isWord(W_MIN) || isWord(W_MAX)) {
                int operation = isWord(W_MIN) ? Script.LEAST : Script.MOST;
                next();
                readPair(deep, operation);
            } else {
                fail(CANT_GO_ON, start);
            }
        }

        private void readPair(int deep, int operation) {
            if (!isSign('(')) {
                fail(CANT_GO_ON, start);
            } else if (mayOpen(deep)) {
                next();
                readSum(deep + 1);
                takeSign(',');
                readSum(deep + 1);
                takeSign(')');
                out.emit(operation, 0);
            }
        }

        private boolean mayOpen(int deep) {
            if (deep >= MOST_DEEP) {
                fail(TOO_DEEP, start);
                return false;
            }
            return true;
        }

        private int numberFor(int what) {
            int number = 0;
            if (type == NUMERAL) {
                number = numeralHere();
            } else {
                fail(CANT_GO_ON, start);
            }
            if (number < leastFor(what) || number > mostFor(what)) {
                fail(BAD_NUMBER, start);
            }
            return number;
        }

        private static int leastFor(int what) {
            return what == Script.TIRES ? 0 : 1;
        }

        private static int mostFor(int what) {
            if (what == Script.STIFF) {
                return 999;
            }
            return what == Script.TIRES ? 1000 : 9999;
        }

        private int numeralHere() {
            if (behind - start > MOST_DIGITS) {
                fail(CANT_GO_ON, start + MOST_DIGITS);
                return 0;
            }
            int number = 0;
            for (int i = start; i < behind; i++) {
                number = number * 10 + tape.byteAt(i) - '0';
            }
            return number;
        }

        /** The letters of the NAME here as one number: six bytes fit into a long. */
        private long nameHere() {
            if (type != WORD || value != NONE) {
                fail(CANT_GO_ON, start);
                return NONE;
            }
            if (behind - start > MOST_LETTERS) {
                fail(CANT_GO_ON, start + MOST_LETTERS);
                return NONE;
            }
            long name = 0;
            for (int i = start; i < behind; i++) {
                name = name << 8 | tape.byteAt(i);
            }
            return name;
        }

        private boolean isWord(int word) {
            return type == WORD && value == word;
        }

        private boolean isSign(char sign) {
            return type == SIGN && value == sign;
        }

        private void takeWord(int word) {
            if (!isWord(word)) {
                fail(CANT_GO_ON, start);
            }
            next();
        }

        private void takeSign(char sign) {
            if (!isSign(sign)) {
                fail(CANT_GO_ON, start);
            }
            next();
        }

        /** Only the first counts; behind it nothing is read, and nothing fits what is asked. */
        private void fail(int what, int where) {
            if (fault == 0) {
                fault = what;
                place = where;
            }
            type = BAD;
        }

        private void next() {
            if (fault != 0) {
                return;
            }
            boolean needsBlank = type == WORD || type == NUMERAL;
            int from = behind;
            start = from;
            while (start < tape.size && isBlank(tape.byteAt(start))) {
                start++;
            }
            int first = tape.byteAt(start);
            behind = start + 1;
            if (first == NONE) {
                type = END;
                behind = start;
            } else if (isLetter(first)) {
                while (behind < tape.size && isLetter(tape.byteAt(behind))) {
                    behind++;
                }
                type = WORD;
                value = ownWord();
            } else if (isDigit(first)) {
                while (behind < tape.size && isDigit(tape.byteAt(behind))) {
                    behind++;
                }
                type = NUMERAL;
            } else {
                type = SIGN;
                value = first;
            }
            if (needsBlank && start == from && (type == WORD || type == NUMERAL)) {
                type = BAD;
            }
        }

        private int ownWord() {
            int word = 0;
            int at = start;
            boolean fits = true;
            for (int i = 0; i < OWN_WORDS.length(); i++) {
                char c = OWN_WORDS.charAt(i);
                if (c != ' ') {
                    fits = fits && at < behind && tape.bytes[at] == c;
                    at++;
                } else if (fits && at == behind) {
                    return word;
                } else {
                    word++;
                    at = start;
                    fits = true;
                }
            }
            return NONE;
        }

        private static boolean isBlank(int c) {
            return c == 10 || c == 32;
        }

        private static boolean isLetter(int c) {
            return c >= 'a' && c <= 'z' || c >= 'A' && c <= 'Z';
        }

        private static boolean isDigit(int c) {
            return c >= '0' && c <= '9';
        }
    }

    /** All ACTS as they were told, numbered from 1 on. */
    private static final class Acts {
        static final int MOST = 120;
        static final int HOOK = 0;
        static final int LOOPS = 1;
        static final int ROUNDS = 2;
        static final int WASH = 3;
        static final int VOID = 4;

        final int[] type = new int[MOST + 1];
        final int[] first = new int[MOST + 1];
        final int[] second = new int[MOST + 1];
        final int[] third = new int[MOST + 1];
        final int[] fourth = new int[MOST + 1];
        /** The VOID that told that it was not so; 0 without. */
        final int[] voidBy = new int[MOST + 1];
        int count = 0;

        int add(int what, int a, int b, int c, int d) {
            if (count >= MOST) {
                return NONE;
            }
            count++;
            type[count] = what;
            first[count] = a;
            second[count] = b;
            third[count] = c;
            fourth[count] = d;
            voidBy[count] = 0;
            return count;
        }

        boolean canVoid(int act) {
            return act >= 1 && act <= count && type[act] != VOID && voidBy[act] == 0;
        }

        int addVoid(int act) {
            int number = add(VOID, act, 0, 0, 0);
            if (number != NONE) {
                voidBy[act] = number;
            }
            return number;
        }

        boolean stands(int act, int by) {
            return voidBy[act] == 0 || voidBy[act] > by;
        }

        int roundsOf(int act) {
            return type[act] == ROUNDS ? first[act] : 0;
        }

        /** Whether what is known at one ACT only goes on from what was known at another. */
        boolean goesOn(int from, int to) {
            if (from > to) {
                return false;
            }
            for (int n = from + 1; n <= to && n <= count; n++) {
                if (type[n] == VOID && first[n] <= from) {
                    return false;
                }
            }
            return true;
        }
    }

    /** The BOARD as known at an ACT, and THE LIST. */
    private static final class Known {
        static final int MOST_WORN = 1000;
        static final int MOST_LINT = 9;
        static final int WASH_WEAR = 10;

        final int[] kindOf = new int[CELLS];
        final int[] slack = new int[CELLS];
        final int[] worn = new int[CELLS];
        final int[] heap = new int[CELLS];
        final int[] fluff = new int[CELLS];
        final int[] great = new int[Acts.MOST * MOST_ROUNDS];
        final Draw trial = new Draw();
        final Pull tug = new Pull();
        int greats = 0;
        int cells = 1;
        int wide = 1;
        /** The ACT up to which it has been followed. */
        int at = 0;

        void begin(int inRow, int rows) {
            wide = Math.max(1, inRow);
            cells = Math.min(CELLS, wide * rows);
            forget();
        }

        void forget() {
            Arrays.fill(kindOf, NONE);
            Arrays.fill(slack, 0);
            Arrays.fill(worn, 0);
            Arrays.fill(heap, 0);
            Arrays.fill(fluff, 0);
            greats = 0;
            at = 0;
        }

        /** Follows an ACT, but for ROUNDS, which go by turn(). */
        void follow(Acts acts, int n) {
            int what = acts.type[n];
            int cell = acts.first[n];
            if (what == Acts.WASH) {
                rinse();
            } else if (what == Acts.HOOK && cell < cells) {
                kindOf[cell] = acts.second[n];
                slack[cell] = acts.third[n];
                worn[cell] = 0;
            } else if (what == Acts.LOOPS && cell < cells) {
                heap[cell] = acts.second[n];
            }
        }

        private void rinse() {
            for (int cell = 0; cell < cells; cell++) {
                fluff[cell] = 0;
                if (hasHook(cell)) {
                    worn[cell] = Math.min(MOST_WORN, worn[cell] + WASH_WEAR);
                }
            }
        }

        /** One ROUND; the seed as it is behind it. */
        long turn(Script script, int press, int shake, long seed) {
            long after = trial.take(this, script, press, shake, seed);
            tug.follow(trial);
            if (greats < great.length) {
                great[greats] = (int) tug.most;
                greats++;
            }
            for (int cell = 0; cell < cells; cell++) {
                if (trial.held[cell] == 1) {
                    tire(script, cell);
                }
                if (hasHook(cell)) {
                    gather(script, cell, press, shake);
                }
            }
            return after;
        }

        private void tire(Script script, int cell) {
            int kind = kindOf[cell];
            worn[cell] += (MOST_WORN - worn[cell]) * script.numberOf(kind, Script.TIRES) / WHOLE;
            if (script.numberOf(kind, Script.OPENS) >= script.numberOf(kind, Script.TEARS)) {
                heap[cell] = Math.max(0, heap[cell] - 1);
            }
        }

        private void gather(Script script, int cell, int press, int shake) {
            tell(script, cell, press, shake);
            int sum = script.sumOf(Reader.W_LINT);
            fluff[cell] = clamp(fluff[cell] + sum, 0, MOST_LINT);
        }

        private void tell(Script script, int cell, int press, int shake) {
            script.facts[Script.FACT_PRESS] = press;
            script.facts[Script.FACT_SHAKE] = shake;
            script.facts[Script.FACT_LOOPS] = heap[cell];
            script.facts[Script.FACT_LINT] = fluff[cell];
            script.facts[Script.FACT_WORN] = worn[cell];
            script.facts[Script.FACT_ROW] = cell / wide;
            script.facts[Script.FACT_COLUMN] = cell % wide;
            script.facts[Script.FACT_KIND] = kindOf[cell];
        }

        int chanceAt(Script script, int cell, int press, int shake) {
            if (heap[cell] == 0) {
                return 0;
            }
            tell(script, cell, press, shake);
            return clamp(script.sumOf(Reader.W_CATCH), 0, WHOLE);
        }

        int stiffnessAt(Script script, int cell) {
            int stiff = script.numberOf(kindOf[cell], Script.STIFF);
            return Math.max(1, stiff * (MOST_WORN - worn[cell]) / WHOLE);
        }

        boolean hasHook(int cell) {
            return kindOf[cell] != NONE;
        }

        int countHooks() {
            int count = 0;
            for (int cell = 0; cell < cells; cell++) {
                if (hasHook(cell)) {
                    count++;
                }
            }
            return count;
        }
    }

    /** THE TABLE of how many are caught by chance. */
    private static final class Odds {
        static final long ONE = 1L << 30;

        final long[] row = new long[CELLS + 1];
        int hooks = 0;
        boolean made = false;

        void begin() {
            made = true;
            hooks = 0;
            row[0] = ONE;
        }

        void addHook(int chance) {
            if (hooks >= CELLS) {
                return;
            }
            hooks++;
            row[hooks] = 0;
            for (int j = hooks; j >= 0; j--) {
                long come = j > 0 ? row[j - 1] * chance / WHOLE : 0;
                row[j] = row[j] * (WHOLE - chance) / WHOLE + come;
            }
        }

        long from(int k) {
            long sum = 0;
            for (int j = k; j <= hooks; j++) {
                sum += row[j];
            }
            return sum;
        }

        int surest(int p) {
            long asked = ONE * p / WHOLE;
            long sum = 0;
            for (int k = hooks; k >= 0; k--) {
                sum += row[k];
                if (sum >= asked) {
                    return k;
                }
            }
            return 0;
        }
    }

    /** A DRAW, with the HOOKS as they were then. */
    private static final class Draw {
        /** By CELLS: 1 CAUGHT, 0 not, NONE without a HOOK. */
        final int[] held = new int[CELLS];
        final int[] stiff = new int[CELLS];
        final int[] slack = new int[CELLS];
        final int[] opens = new int[CELLS];
        int cells = 0;
        int wide = 1;
        int count = 0;
        boolean made = false;

        /** The seed as it is behind the DRAW. */
        long take(Known board, Script script, int press, int shake, long seed) {
            long x = seed;
            made = true;
            cells = board.cells;
            wide = board.wide;
            count = 0;
            for (int cell = 0; cell < cells; cell++) {
                held[cell] = NONE;
                if (board.hasHook(cell)) {
                    x = (1103515245L * x + 12345) % (1L << 31);
                    boolean isCaught = x / 256 % WHOLE < board.chanceAt(script, cell, press, shake);
                    held[cell] = isCaught ? 1 : 0;
                    count += held[cell];
                    stiff[cell] = board.stiffnessAt(script, cell);
                    slack[cell] = board.slack[cell];
                    opens[cell] = script.numberOf(board.kindOf[cell], Script.OPENS);
                }
            }
            return x;
        }
    }

    /** A straight PULL: its STEPS in their order. */
    private static final class Pull {
        final int[] cell = new int[CELLS];
        final int[] stiff = new int[CELLS];
        final int[] slack = new int[CELLS];
        /** The STRETCH at which it gives, times its STIFFNESS. */
        final int[] gives = new int[CELLS];
        int steps = 0;
        long most = 0;
        boolean made = false;

        void follow(Draw draw) {
            made = true;
            steps = 0;
            for (int c = 0; c < draw.cells; c++) {
                if (draw.held[c] == 1) {
                    insert(c, draw.stiff[c], draw.slack[c], draw.opens[c]);
                }
            }
            most = 0;
            for (int k = 0; k < steps; k++) {
                most = Math.max(most, loadAbove(k) / Math.max(1, stiff[k]));
            }
        }

        private void insert(int ofCell, int stiffness, int itsSlack, int opens) {
            if (steps >= CELLS) {
                return;
            }
            int gap = steps;
            int stretch = itsSlack * stiffness + opens;
            while (gap > 0 && (long) gives[gap - 1] * stiffness > (long) stretch * stiff[gap - 1]) {
                cell[gap] = cell[gap - 1];
                stiff[gap] = stiff[gap - 1];
                slack[gap] = slack[gap - 1];
                gives[gap] = gives[gap - 1];
                gap--;
            }
            cell[gap] = ofCell;
            stiff[gap] = stiffness;
            slack[gap] = itsSlack;
            gives[gap] = stretch;
            steps++;
        }

        /** What all bear that have not given at a lesser STRETCH, times the STIFFNESS of the k-th. */
        long loadAbove(int k) {
            long stretch = gives[k];
            long below = stiff[k];
            long sum = 0;
            for (int j = steps - 1; j >= 0; j--) {
                if (gives[j] * below < stretch * stiff[j]) {
                    break;
                }
                sum += stiff[j] * Math.max(0, stretch - slack[j] * below);
            }
            return sum;
        }

        /** Up to each STEP the LOAD grows, so the first STEP that reaches a weight tells all. */
        int holding(int weight) {
            for (int k = 0; k < steps; k++) {
                if (loadAbove(k) >= (long) weight * stiff[k]) {
                    return steps - k;
                }
            }
            return 0;
        }
    }

    /** A PEEL: its fronts in their order. */
    private static final class Peel {
        static final int WEIGHTS = 4;
        static final int MOST_WEIGHT = 9;

        final int[] row = new int[SIDE];
        final int[] force = new int[SIDE];
        final int[] went = new int[SIDE];
        /** Of the rows in the order in which the PEEL meets them. */
        final int[] hold = new int[SIDE];
        final int[] weight = new int[WEIGHTS];
        int fronts = 0;
        long sum = 0;
        boolean made = false;

        static boolean canWeigh(int weights) {
            if (weights < 0 || weights >= 1 << 4 * WEIGHTS || (weights & 15) == 0) {
                return false;
            }
            for (int j = 0; j < WEIGHTS; j++) {
                if ((weights >> 4 * j & 15) > MOST_WEIGHT) {
                    return false;
                }
            }
            return true;
        }

        void follow(Draw draw, boolean down, int weights) {
            int rows = Math.min(SIDE, draw.cells / Math.max(1, draw.wide));
            made = true;
            fronts = 0;
            sum = 0;
            for (int j = 0; j < WEIGHTS; j++) {
                weight[j] = weights >> 4 * j & 15;
            }
            for (int i = 0; i < rows; i++) {
                hold[i] = holdOf(draw, down ? i : rows - 1 - i);
            }
            for (int i = 0; i < rows; i++) {
                open(i, rows);
                row[fronts] = down ? i : rows - 1 - i;
                sum += force[fronts];
                i += went[fronts];
                fronts++;
            }
        }

        private static int holdOf(Draw draw, int ofRow) {
            int sum = 0;
            for (int column = 0; column < draw.wide; column++) {
                int c = ofRow * draw.wide + column;
                if (draw.held[c] == 1) {
                    sum += draw.opens[c];
                }
            }
            return sum;
        }

        /** FORCE of the front at the i-th row, and how many rows go with it. */
        private void open(int i, int rows) {
            int shares = 0;
            for (int j = 0; j < WEIGHTS && i + j < rows; j++) {
                shares += weight[j];
            }
            shares = Math.max(1, shares);
            int first = Math.max(1, weight[0]);
            int needed = (hold[i] * shares + first - 1) / first;
            int gone = 0;
            for (int j = 1; j < WEIGHTS && i + j < rows; j++) {
                if (needed * weight[j] / shares < hold[i + j]) {
                    break;
                }
                gone = j;
            }
            force[fronts] = needed;
            went[fronts] = gone;
        }
    }

    /** PATCHES, the PULLS that they hold, and the latest CHOICE. */
    private static final class Patches {
        static final int MOST = 12;
        static final int MOST_PULLS = 8;
        static final int BEYOND_COST = 1000000;

        final int[] place = new int[MOST];
        final int[] bears = new int[MOST];
        final int[] cost = new int[MOST];
        final int[] pullPlace = new int[MOST_PULLS];
        final int[] pullForce = new int[MOST_PULLS];
        int count = 0;
        int pulls = 0;
        /** Sets are bits, the first PATCH the lowest. */
        int picked = 0;
        int pickedOf = 0;
        private int reach;
        private int open;
        private int bestCost;
        private int bestSize;
        private int best;

        int addPatch(int itsPlace, int itsBears, int itsCost) {
            if (count >= MOST) {
                return NONE;
            }
            place[count] = itsPlace;
            bears[count] = itsBears;
            cost[count] = itsCost;
            count++;
            return count;
        }

        int addPull(int itsPlace, int itsForce) {
            if (pulls >= MOST_PULLS) {
                return NONE;
            }
            pullPlace[pulls] = itsPlace;
            pullForce[pulls] = itsForce;
            pulls++;
            return pulls;
        }

        int pick(int withReach, int withOpen) {
            reach = withReach;
            open = withOpen;
            bestCost = BEYOND_COST;
            bestSize = 0;
            best = NONE;
            int every = (1 << count) - 1;
            if (holdsAll(every)) {
                search(0, every, 0, 0, 0);
            }
            if (best == NONE) {
                return NONE;
            }
            picked = best;
            pickedOf = count;
            return bestCost;
        }

        /**
         * Decides the i-th PATCH and those behind it. The set has those that were kept and all that are not yet
         * decided: more PATCHES never hold less, so what does not hold as it is can be left. Keeping comes ahead
         * of leaving, so of like sets the first one is met first.
         */
        private void search(int i, int set, int paid, int size, int borne) {
            if (borne > open || paid > bestCost || paid == bestCost && size >= bestSize) {
                return;
            }
            if (i >= count) {
                bestCost = paid;
                bestSize = size;
                best = set;
                return;
            }
            search(i + 1, set, paid + cost[i], size + 1, borne + bears[i]);
            int without = set & ~(1 << i);
            if (holdsAll(without)) {
                search(i + 1, without, paid, size, borne);
            }
        }

        private boolean holdsAll(int set) {
            for (int p = 0; p < pulls; p++) {
                if (!holds(set, p)) {
                    return false;
                }
            }
            return true;
        }

        private boolean holds(int set, int p) {
            int sum = 0;
            int greatest = 0;
            for (int i = 0; i < count; i++) {
                if ((set >> i & 1) == 1 && Math.abs(place[i] - pullPlace[p]) <= reach) {
                    sum += bears[i];
                    greatest = Math.max(greatest, bears[i]);
                }
            }
            return sum - greatest >= pullForce[p];
        }
    }
}
