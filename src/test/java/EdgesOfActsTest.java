import java.util.List;
import java.util.function.ToIntFunction;

/** ACTS, CHANCE, ROUNDS and promises 7 to 17: each sentence that names a boundary case has a test of its own. */
public final class EdgesOfActsTest {
    private static final int NONE = HookBoard.NONE;
    private static final int LEAST = Integer.MIN_VALUE;
    private static final int MOST = Integer.MAX_VALUE;
    private static final String PLAIN = "kind a stiff 1 opens 1 tires 0 tears 2;";
    private static final String ALWAYS = "catch 1000 when all;";

    private final Check check = new Check();

    public static void main(String[] args) {
        EdgesOfActsTest test = new EdgesOfActsTest();
        test.hookThatCanBe();
        test.hookInPlaceOfAnother();
        test.loopsThatCanBe();
        test.roundsThatCanBe();
        test.actsUpTo120();
        test.actsBeginAnew();
        test.annulWhatThereIs();
        test.annulIsFollowed();
        test.voidByAnAct();
        test.asKnown();
        test.cellAndWhat();
        test.rowsAndColumns();
        test.wornByRounds();
        test.wornByWashes();
        test.stiffness();
        test.loopsTornOff();
        test.lintWithinNine();
        test.lintOfTheHookAsItIsThen();
        test.washOfLint();
        test.seedsFromRoundToRound();
        test.theList();
        test.fullList();
        test.untilAMark();
        test.chanceWithin1000();
        test.chanceOfTheFirst();
        test.chanceThatCanBe();
        test.sumsWithinLimits();
        test.quotients();
        test.signs();
        test.factsOfAHook();
        test.check.finish();
    }

    private void due(String call, long got, long want) {
        check.due(call, got, want);
    }

    private void due(String call, boolean got, boolean want) {
        check.due(call, got, want);
    }

    /** One HOOK of the first KIND with LOOPS on a BOARD of one CELL. */
    private static HookBoard one(String text, int loops) {
        HookBoard x = Check.board(text, 1, 1);
        x.hook(0, 0, 0);
        x.loops(0, loops);
        return x;
    }

    // Promise 7: "NONE when something can't be"; I: "a SLACK (0 .. 99)"
    private void hookThatCanBe() {
        HookBoard x = Check.board(PLAIN + "kind b stiff 1 opens 1 tires 0 tears 2;", 3, 2);
        int acts = 0;
        for (int cell : new int[] {LEAST, -1, 0, 5, 6, 63, 64, MOST}) {
            for (int kind : new int[] {LEAST, -1, 0, 1, 2, 7, 8, MOST}) {
                for (int slack : new int[] {LEAST, -1, 0, 99, 100, MOST}) {
                    boolean can = (cell == 0 || cell == 5) && (kind == 0 || kind == 1) && (slack == 0 || slack == 99);
                    acts += can ? 1 : 0;
                    due("7: hook(" + cell + ", " + kind + ", " + slack + ")", x.hook(cell, kind, slack), can ? acts : NONE);
                }
            }
        }
        due("7: ACTS", x.all(2), acts);
        due("7: its SLACK", x.cell(5, 1), 99);
    }

    // I: "(in place of one there; WORN 0)"
    private void hookInPlaceOfAnother() {
        HookBoard x = Check.board("kind a stiff 9 opens 5 tires 300 tears 5; kind b stiff 7 opens 1 tires 0 tears 2;" + ALWAYS
            + "lint 2 when all;", 1, 1);
        x.hook(0, 0, 99);
        x.loops(0, 9);
        x.rounds(1, 0, 0, 0);
        due("7: WORN", x.cell(0, 2), 300);
        x.hook(0, 1, 0);
        int[] now = {1, 0, 0, 7, 8, 2};
        for (int what = 0; what < 6; what++) {
            due("7: in place of one there: cell(0, " + what + ")", x.cell(0, what), now[what]);
        }
        due("38: still one HOOK", x.all(4), 1);
        x.hook(0, 1, 0);
        due("7: of the same KIND, WORN 0 again", x.cell(0, 2), 0);
    }

    // Promise 8; I: "LOOPS of a CELL (0 .. 9; 0 at first)"
    private void loopsThatCanBe() {
        HookBoard x = Check.board(PLAIN, 8, 8);
        for (int cell = 0; cell < 64; cell++) {
            due("13: 0 at first", x.cell(cell, 4), 0);
        }
        int acts = 0;
        for (int cell : new int[] {LEAST, -1, 0, 63, 64, MOST}) {
            for (int n : new int[] {LEAST, -1, 0, 1, 9, 10, 255, MOST}) {
                boolean can = (cell == 0 || cell == 63) && n >= 0 && n <= 9;
                acts += can ? 1 : 0;
                due("8: loops(" + cell + ", " + n + ")", x.loops(cell, n), can ? acts : NONE);
            }
        }
        due("8: without a HOOK", x.cell(63, 4), 9);
        due("8: the last that was told", x.loops(63, 0), acts + 1);
        due("8: LOOPS 0 again", x.cell(63, 4), 0);
        HookBoard y = Check.board(PLAIN + ALWAYS, 8, 2);
        for (int cell = 0; cell < 16; cell++) {
            y.loops(cell, cell % 10);
        }
        y.rounds(1, 7, 8, 9);
        y.rounds(10, 3, 4, 5);
        y.hook(4, 0, 9);
        y.wash();
        y.annul(16);
        for (int cell = 0; cell < 16; cell++) {
            due("8: other ACTS leave LOOPS", y.cell(cell, 4), cell < 15 ? cell % 10 : 0);
            due("7: other ACTS leave HOOKS", y.cell(cell, 0), cell == 4 ? 0 : NONE);
        }
    }

    // Promise 9; I: "ROUNDS (1 .. 10) with a PRESS, a SHAKE, a seed (0 .. 2147483647)"
    private void roundsThatCanBe() {
        HookBoard x = new HookBoard();
        int acts = 0;
        int listed = 0;
        for (int n : new int[] {LEAST, -1, 0, 1, 10, 11, MOST}) {
            for (int press : new int[] {-1, 0, 99, 100}) {
                for (int shake : new int[] {-1, 0, 99, 100}) {
                    for (int seed : new int[] {LEAST, -1, 0, MOST}) {
                        boolean can = (n == 1 || n == 10) && (press == 0 || press == 99) && (shake == 0 || shake == 99)
                            && seed >= 0;
                        acts += can ? 1 : 0;
                        listed += can ? n : 0;
                        due("9: rounds(" + n + ", " + press + ", " + shake + ", " + seed + ")",
                            x.rounds(n, press, shake, seed), can ? acts : NONE);
                    }
                }
            }
        }
        due("9: ACTS", x.all(2), acts);
        due("14: of each ROUND", x.listed(), listed);
        due("9: far off", x.rounds(1, LEAST, 0, 0), NONE);
        due("9: far off", x.rounds(1, MOST, 0, 0), NONE);
        due("9: far off", x.rounds(1, 0, LEAST, 0), NONE);
        due("9: far off", x.rounds(1, 0, MOST, 0), NONE);
    }

    // I: "ACTS, numbered from 1 on (120 at most)"; promises 7 to 11: "or there are 120"
    private void actsUpTo120() {
        List<ToIntFunction<HookBoard>> acts = actsOfAllKinds();
        for (ToIntFunction<HookBoard> last : acts) {
            HookBoard x = Check.board(PLAIN, 1, 1);
            for (int n = 1; n < 120; n++) {
                due("10: wash", x.wash(), n);
            }
            due("7 to 11: the 120th", last.applyAsInt(x), 120);
            for (ToIntFunction<HookBoard> more : acts) {
                due("7 to 11: a 121st", more.applyAsInt(x), NONE);
            }
            due("11: no VOID of a 121st", x.annul(121), NONE);
            due("38: ACTS", x.all(2), 120);
            due("38: all is told as known at", x.all(3), 120);
            due("12: as(120)", x.as(120), true);
            due("12: as(121)", x.as(121), false);
        }
    }

    private static List<ToIntFunction<HookBoard>> actsOfAllKinds() {
        return List.of(x -> x.hook(0, 0, 0), x -> x.loops(0, 1), x -> x.rounds(1, 0, 0, 0), HookBoard::wash,
            x -> x.annul(7));
    }

    // Promise 4: "ACTS go": from 1 on again
    private void actsBeginAnew() {
        HookBoard x = Check.board(PLAIN, 1, 1);
        x.hook(0, 0, 0);
        x.annul(1);
        for (int n = 3; n <= 120; n++) {
            x.wash();
        }
        Check.text(x, PLAIN, 1, 1);
        due("12: none such", x.as(1), false);
        due("11: none such", x.annul(1), NONE);
        due("7: from 1 on", x.hook(0, 0, 4), 1);
        due("11: the 1st is not VOID", x.cell(0, 1), 4);
        due("11: it can be", x.annul(1), 2);
        due("11: now it is", x.cell(0, 1), NONE);
    }

    // Promise 11: "NONE when there is none such, it is VOID or tells so"
    private void annulWhatThereIs() {
        HookBoard x = Check.board(PLAIN, 1, 1);
        for (int act : new int[] {LEAST, -2, -1, 0, 1, 120, 121, MOST}) {
            due("11: none such, annul(" + act + ")", x.annul(act), NONE);
        }
        x.hook(0, 0, 0);
        x.loops(0, 1);
        x.rounds(1, 0, 0, 0);
        x.wash();
        due("11: none such", x.annul(5), NONE);
        due("11: none such", x.annul(0), NONE);
        for (int act = 1; act <= 4; act++) {
            due("11: annul(" + act + ")", x.annul(act), 4 + act);
            due("11: it is VOID", x.annul(act), NONE);
            due("11: it tells so", x.annul(4 + act), NONE);
        }
        due("11: ACTS", x.all(2), 8);
        due("11: the last that there is", x.wash(), 9);
        due("11: annul(9)", x.annul(9), 10);
    }

    // I: "VOID: one of these was not so": what comes behind it is told anew
    private void annulIsFollowed() {
        HookBoard x = Check.board("kind a stiff 10 opens 50 tires 100 tears 50;" + ALWAYS + "lint 3 when all;", 1, 1);
        x.hook(0, 0, 0);
        x.loops(0, 2);
        x.loops(0, 1);
        x.rounds(2, 0, 0, 0);
        x.wash();
        told(x, "ahead", 110, 0, 0, 50, 0);
        due("11: the second LOOPS", x.annul(3), 6);
        told(x, "two LOOPS", 200, 0, 0, 50, 50);
        due("11: the WASH", x.annul(5), 7);
        told(x, "no WASH", 190, 0, 6, 50, 50);
        due("11: the first LOOPS", x.annul(2), 8);
        told(x, "no LOOPS", 0, 0, 6, 0, 0);
        due("11: the ROUNDS", x.annul(4), 9);
        due("14: nothing listed", x.listed(), 0);
        due("13: no LINT", x.cell(0, 5), 0);
        due("11: the HOOK", x.annul(1), 10);
        due("13: no HOOK", x.cell(0, 0), NONE);
        due("38: no HOOKS", x.all(4), 0);
        x.as(5);
        told(x, "as known at 5", 110, 0, 0, 50, 0);
        x.as(6);
        told(x, "as known at 6", 200, 0, 0, 50, 50);
        x.as(8);
        told(x, "as known at 8", 0, 0, 6, 0, 0);
    }

    private void told(HookBoard x, String when, int worn, int loops, int lint, int first, int second) {
        due("13: WORN, " + when, x.cell(0, 2), worn);
        due("13: LOOPS, " + when, x.cell(0, 4), loops);
        due("13: LINT, " + when, x.cell(0, 5), lint);
        due("14: listed, " + when, x.listed(), 2);
        due("15: list(0), " + when, x.list(0), first);
        due("15: list(1), " + when, x.list(1), second);
    }

    // I: "ACTS up to n that are not VOID by n"
    private void voidByAnAct() {
        HookBoard x = Check.board(PLAIN, 1, 1);
        x.loops(0, 4);
        x.wash();
        x.annul(1);
        int[] loops = {0, 4, 4, 0};
        for (int from = 0; from <= 3; from++) {
            for (int to = 0; to <= 3; to++) {
                x.as(from);
                due("12: as known at " + from, x.cell(0, 4), loops[from]);
                x.as(to);
                due("12: from " + from + " to " + to, x.cell(0, 4), loops[to]);
            }
        }
        x.as(2);
        due("12: as known at 2", x.cell(0, 4), 4);
        x.loops(0, 9);
        due("12: a later ACT tells nothing", x.cell(0, 4), 4);
        x.annul(4);
        due("12: nor does a later VOID", x.cell(0, 4), 4);
        x.as(4);
        due("12: as known at 4", x.cell(0, 4), 9);
        x.as(5);
        due("12: as known at 5", x.cell(0, 4), 0);
    }

    // Promise 12: "an ACT (0: none; NONE: always the last one): true; false when there is none such"
    private void asKnown() {
        HookBoard x = Check.board(PLAIN, 1, 1);
        due("12: as(0) without ACTS", x.as(0), true);
        due("12: as(NONE) without ACTS", x.as(NONE), true);
        due("12: as(1) without ACTS", x.as(1), false);
        x.hook(0, 0, 1);
        x.hook(0, 0, 2);
        int[] cant = {LEAST, -3, -2, 3, 4, 120, 121, MOST};
        for (int act : cant) {
            due("12: as(" + act + ")", x.as(act), false);
            due("12: as before", x.all(3), 2);
        }
        int[] can = {0, 1, 2, NONE};
        int[] slack = {NONE, 1, 2, 2};
        for (int i = 0; i < can.length; i++) {
            due("12: as(" + can[i] + ")", x.as(can[i]), true);
            due("38: the ACT", x.all(3), can[i] == NONE ? 2 : can[i]);
            due("13: as known", x.cell(0, 1), slack[i]);
            for (int act : cant) {
                due("12: as(" + act + ")", x.as(act), false);
            }
            due("38: as before", x.all(3), can[i] == NONE ? 2 : can[i]);
        }
        x.hook(0, 0, 3);
        due("12: always the last one", x.cell(0, 1), 3);
        x.as(3);
        x.hook(0, 0, 4);
        due("12: the 3rd for good", x.cell(0, 1), 3);
        x.annul(3);
        due("12: not VOID by then", x.cell(0, 1), 3);
        due("38: the ACT", x.all(3), 3);
        due("38: ACTS", x.all(2), 5);
    }

    // Promise 13: "(1 .. 3: NONE without one) .. NONE when there is none such, or for others"
    private void cellAndWhat() {
        HookBoard x = Check.board(PLAIN + "lint 4 when all;", 8, 8);
        x.hook(63, 0, 99);
        x.loops(63, 9);
        x.loops(62, 8);
        x.rounds(1, 0, 0, 0);
        int[] hooked = {0, 99, 0, 1, 9, 4};
        int[] bare = {NONE, NONE, NONE, NONE, 8, 0};
        for (int what = 0; what < 6; what++) {
            due("13: cell(63, " + what + ")", x.cell(63, what), hooked[what]);
            due("13: cell(62, " + what + ")", x.cell(62, what), bare[what]);
            for (int cell : new int[] {LEAST, -1, 64, 65, MOST}) {
                due("13: cell(" + cell + ", " + what + ")", x.cell(cell, what), NONE);
            }
        }
        for (int what : new int[] {LEAST, -1, 6, 7, MOST}) {
            due("13: cell(63, " + what + ")", x.cell(63, what), NONE);
            due("13: cell(62, " + what + ")", x.cell(62, what), NONE);
        }
    }

    // I: "a CELL's number is its row times how many are in a row, and its column"
    private void rowsAndColumns() {
        int[][] sizes = {{1, 1}, {8, 1}, {1, 8}, {3, 5}, {5, 3}, {8, 8}};
        for (int[] size : sizes) {
            HookBoard x = Check.board(PLAIN + "catch row * 10 + column when all;", size[0], size[1]);
            for (int row = 0; row < size[1]; row++) {
                for (int column = 0; column < size[0]; column += 1 + size[0] / 8) {
                    int cell = row * size[0] + column;
                    x.hook(cell, 0, 0);
                    x.loops(cell, 1);
                    due("17: row and column of " + cell, x.chance(cell, 0, 0), row * 10 + column);
                }
            }
        }
    }

    // IV: "WORN becomes WORN and floor((1000 less WORN) times tires / 1000)"
    private void wornByRounds() {
        for (int tires : new int[] {0, 1, 2, 333, 500, 999, 1000}) {
            HookBoard x = one("kind a stiff 999 opens 1 tires " + tires + " tears 2;" + ALWAYS, 1);
            int worn = 0;
            for (int n = 0; n < 12; n++) {
                x.rounds(10, 0, 0, n);
                for (int i = 0; i < 10; i++) {
                    worn += (1000 - worn) * tires / 1000;
                }
                due("9: WORN by " + tires, x.cell(0, 2), worn);
            }
        }
        HookBoard x = one("kind a stiff 9 opens 1 tires 1000 tears 2;" + ALWAYS, 1);
        x.rounds(1, 0, 0, 0);
        due("9: WORN at once", x.cell(0, 2), 1000);
        x.rounds(1, 0, 0, 0);
        due("9: no more than that", x.cell(0, 2), 1000);
        HookBoard y = one("kind a stiff 9 opens 1 tires 1000 tears 2; catch 0 when all;", 1);
        y.rounds(10, 0, 0, 0);
        due("9: only of those that are CAUGHT", y.cell(0, 2), 0);
    }

    // IV: "WORN of each HOOK 10 more, 1000 at most"
    private void wornByWashes() {
        HookBoard x = Check.board(PLAIN, 2, 1);
        x.wash();
        x.hook(0, 0, 0);
        for (int n = 1; n <= 102; n++) {
            x.wash();
            due("10: WORN", x.cell(0, 2), Math.min(1000, 10 * n));
        }
        due("10: without a HOOK", x.cell(1, 2), NONE);
        x.hook(1, 0, 0);
        due("10: a HOOK behind it", x.cell(1, 2), 0);
        for (int tires = 988; tires <= 1000; tires++) {
            HookBoard y = one("kind a stiff 9 opens 1 tires " + tires + " tears 2;" + ALWAYS, 1);
            y.rounds(1, 0, 0, 0);
            y.wash();
            due("10: WORN of " + tires, y.cell(0, 2), Math.min(1000, tires + 10));
        }
    }

    // III: "floor(stiff of its KIND times (1000 less WORN) / 1000), 1 at least"
    private void stiffness() {
        int[][] due = {{999, 0, 999}, {999, 1, 998}, {999, 998, 1}, {999, 999, 1}, {999, 1000, 1}, {1, 0, 1}, {1, 1, 1},
            {1, 1000, 1}, {2, 500, 1}, {2, 499, 1}, {3, 333, 2}, {3, 334, 1}, {500, 2, 499}, {500, 3, 498}, {1, 999, 1}};
        for (int[] d : due) {
            HookBoard x = one("kind a stiff " + d[0] + " opens 1 tires " + d[1] + " tears 2;" + ALWAYS, 1);
            x.rounds(1, 0, 0, 0);
            due("13: WORN", x.cell(0, 2), d[1]);
            due("13: STIFFNESS of " + d[0] + " by " + d[1], x.cell(0, 3), d[2]);
        }
    }

    // IV: "if its opens is not below its tears, its CELL has one LOOP fewer"
    private void loopsTornOff() {
        int[][] kinds = {{5, 4, 1}, {5, 5, 1}, {5, 6, 0}, {9999, 9999, 1}, {9998, 9999, 0}, {1, 1, 1}, {1, 2, 0}};
        for (int[] kind : kinds) {
            HookBoard x = one("kind a stiff 1 opens " + kind[0] + " tires 0 tears " + kind[1] + ";" + ALWAYS, 3);
            x.rounds(1, 0, 0, 0);
            due("9: LOOPS, opens " + kind[0] + ", tears " + kind[1], x.cell(0, 4), 3 - kind[2]);
            x.rounds(4, 0, 0, 0);
            due("9: LOOPS, 0 at least", x.cell(0, 4), kind[2] == 1 ? 0 : 3);
            due("15: as long as there are some", x.list(2), kind[0]);
            due("15: then none is CAUGHT", x.list(3), kind[2] == 1 ? 0 : kind[0]);
        }
        HookBoard y = one("kind a stiff 1 opens 5 tires 0 tears 1; catch 0 when all;", 3);
        y.rounds(10, 0, 0, 0);
        due("9: only of those that are CAUGHT", y.cell(0, 4), 3);
    }

    private void lint(String sum, int... due) {
        HookBoard x = Check.board(PLAIN + "lint " + sum + ";", 2, 1);
        x.hook(0, 0, 0);
        for (int lint : due) {
            x.rounds(1, 0, 0, 0);
            due("13: LINT by " + sum, x.cell(0, 5), lint);
            due("13: without a HOOK", x.cell(1, 5), 0);
        }
    }

    // IV: "the LINT (0 at first) becomes LINT and that SUM .., 0 .. 9"
    private void lintWithinNine() {
        lint("1 when all", 1, 2, 3, 4, 5, 6, 7, 8, 9, 9, 9);
        lint("9 when all", 9, 9);
        lint("10 when all", 9, 9);
        lint("9999 * 9999 * 9999 when all", 9, 9);
        lint("0 when all", 0, 0);
        lint("0 - 1 when all", 0, 0);
        lint("0 - 9999 * 9999 * 9999 when all", 0, 0);
        lint("8 - lint * 3 when all", 8, 0, 8);
        lint("5 when lint = 0; lint 0 - 4 when lint = 5; lint 0 - 2 when all", 5, 1, 0, 5);
        lint("5 when lint < 5; lint 4 when lint = 5", 5, 9, 9);
        lint("5 when lint > 0", 0, 0);
        HookBoard x = Check.board(PLAIN, 1, 1);
        x.hook(0, 0, 0);
        x.rounds(10, 99, 99, 0);
        due("13: LINT without a rule", x.cell(0, 5), 0);
        HookBoard y = Check.board(PLAIN + "lint 2 when all;", 1, 1);
        y.rounds(10, 0, 0, 0);
        due("13: LINT ahead of the first HOOK", y.cell(0, 5), 0);
        y.hook(0, 0, 0);
        y.rounds(2, 0, 0, 0);
        y.hook(0, 0, 5);
        due("13: LINT is the CELL's", y.cell(0, 5), 4);
    }

    // IV: "the first lint whose TEST holds (for the HOOK as it is then)": behind WORN and LOOPS, by the told PRESS, SHAKE
    private void lintOfTheHookAsItIsThen() {
        String kind = "kind a stiff 1 opens 5 tires 700 tears 5;" + ALWAYS;
        HookBoard x = one(kind + "lint worn / 100 when loops = 0;", 1);
        x.rounds(1, 0, 0, 0);
        due("9: behind what tires and tears", x.cell(0, 5), 7);
        HookBoard y = one(kind + "lint press / 10 - shake / 10 when press > shake; lint 1 when all;", 9);
        y.rounds(1, 99, 50, 0);
        due("9: PRESS and SHAKE as told", y.cell(0, 5), 4);
        y.rounds(1, 50, 50, 0);
        due("9: the first whose TEST holds", y.cell(0, 5), 5);
    }

    // IV: "A WASH: all LINT 0"
    private void washOfLint() {
        HookBoard x = Check.board(PLAIN + "lint column + 1 when all;", 8, 8);
        x.hook(0, 0, 0);
        x.hook(63, 0, 0);
        x.rounds(1, 0, 0, 0);
        due("13: LINT", x.cell(63, 5), 8);
        x.wash();
        due("10: LINT", x.cell(0, 5), 0);
        due("10: LINT", x.cell(63, 5), 0);
        x.rounds(1, 0, 0, 0);
        due("13: LINT anew", x.cell(63, 5), 8);
    }

    // IV: "a DRAW (the seed goes on from ROUND to ROUND) by the CHANCES ahead of it"; HOOKS without LOOPS take theirs too
    private void seedsFromRoundToRound() {
        for (int start : new int[] {0, 1, 12345, MOST - 1, MOST}) {
            HookBoard x = Check.board("kind a stiff 3 opens 8 tires 0 tears 9; kind b stiff 2 opens 100 tires 0 tears 101;"
                + "catch 500 when all;", 3, 1);
            x.hook(0, 0, 0);
            x.hook(1, 0, 0);
            x.hook(2, 1, 0);
            x.loops(0, 1);
            x.loops(2, 1);
            x.rounds(10, 0, 0, start);
            x.rounds(10, 0, 0, start);
            long seed = start;
            for (int n = 0; n < 10; n++) {
                long load = 0;
                for (int cell = 0; cell < 3; cell++) {
                    seed = (1103515245L * seed + 12345) % 2147483648L;
                    boolean caught = seed / 256 % 1000 < 500 && cell != 1;
                    load += caught ? 1L << cell : 0;
                }
                // 8 at 8 / 3, then 100 at 50; both at once: at 8 / 3 8 and 5 1/3
                long due = load == 0 ? 0 : load == 1 ? 8 : 100;
                due("15: round " + n + " by " + start, x.list(n), due);
                due("15: by the same seed again", x.list(10 + n), due);
            }
        }
    }

    // Promise 14, 15: "NONE when there is none such"
    private void theList() {
        HookBoard x = one("kind a stiff 3 opens 7 tires 0 tears 7;" + ALWAYS, 2);
        due("14: without ROUNDS", x.listed(), 0);
        due("15: without ROUNDS", x.list(0), NONE);
        x.rounds(1, 0, 0, 0);
        x.wash();
        x.rounds(2, 0, 0, 0);
        long[] due = {7, 7, 0};
        due("14: listed", x.listed(), 3);
        for (int k = 0; k < 3; k++) {
            due("15: list(" + k + ")", x.list(k), due[k]);
        }
        for (int k : new int[] {LEAST, -2, -1, 3, 4, 1199, 1200, MOST}) {
            due("15: list(" + k + ")", x.list(k), NONE);
        }
        x.as(3);
        due("14: as known at 3", x.listed(), 1);
        due("15: as known at 3", x.list(1), NONE);
        x.as(2);
        due("14: as known at 2", x.listed(), 0);
        due("15: as known at 2", x.list(0), NONE);
        due("16: as known at 2", x.until(1000), NONE);
    }

    // IV: "THE GREATEST of each ROUND of all ROUNDS": as many as 120 ACTS can have
    private void fullList() {
        HookBoard x = Check.board("kind a stiff 3 opens 7 tires 0 tears 8;" + ALWAYS, 1, 1);
        for (int n = 1; n <= 120; n++) {
            x.rounds(10, 0, 0, n);
        }
        due("14: listed", x.listed(), 1200);
        due("15: list(1199)", x.list(1199), 0);
        due("15: list(1200)", x.list(1200), NONE);
        HookBoard y = one("kind a stiff 3 opens 7 tires 0 tears 8; catch 1000 when worn < 20;", 1);
        for (int n = 3; n <= 117; n++) {
            y.rounds(10, 0, 0, n);
        }
        y.wash();
        y.wash();
        y.rounds(9, 0, 0, 0);
        due("14: listed", y.listed(), 1159);
        due("15: list(1149)", y.list(1149), 7);
        due("15: list(1150)", y.list(1150), 0);
        due("15: list(1158)", y.list(1158), 0);
        due("15: list(1159)", y.list(1159), NONE);
        due("16: until(7)", y.until(7), 1150);
        due("16: until(8)", y.until(8), 0);
    }

    // Promise 16: "The first of THE LIST that is below a mark; NONE when there is none"
    private void untilAMark() {
        HookBoard x = one("kind a stiff 10 opens 90 tires 0 tears 90; catch 1000 when all;", 2);
        due("16: nothing listed", x.until(Long.MAX_VALUE), NONE);
        x.rounds(4, 0, 0, 0);
        long[] marks = {Long.MIN_VALUE, -(1L << 32), -1, 0, 1, 89, 90, 91, 1L << 31, 1L << 32, (1L << 32) + 1, Long.MAX_VALUE};
        int[] due = {NONE, NONE, NONE, NONE, 2, 2, 2, 0, 0, 0, 0, 0};
        for (int i = 0; i < marks.length; i++) {
            due("16: until(" + marks[i] + ")", x.until(marks[i]), due[i]);
        }
    }

    private void chance(String rules, int loops, int want) {
        HookBoard x = one(PLAIN + rules, loops);
        due("17: " + rules, x.chance(0, 0, 0), want);
    }

    // II: "that SUM .., 0 .. 1000 (0 without one); 0 if its CELL has no LOOPS"
    private void chanceWithin1000() {
        int[] sums = {0, 1, 999, 1000, 1001, 1024, 9999};
        for (int sum : sums) {
            chance("catch " + sum + " when all;", 1, Math.min(1000, sum));
            chance("catch " + sum + " when all;", 9, Math.min(1000, sum));
            chance("catch " + sum + " when all;", 0, 0);
            chance("catch 0 - " + sum + " when all;", 1, 0);
        }
        chance("catch 9999 * 9999 * 9999 when all;", 1, 1000);
        chance("catch 0 - 9999 * 9999 * 9999 when all;", 1, 0);
        chance("", 1, 0);
        chance("lint 5 when all;", 1, 0);
        chance("catch 1000 when not all;", 1, 0);
    }

    // II: "of the first catch whose TEST holds"
    private void chanceOfTheFirst() {
        chance("catch 1 when all; catch 2 when all;", 1, 1);
        chance("catch 1 when not all; catch 2 when all;", 1, 2);
        chance("lint 9 when all; catch 1 when not all; lint 8 when all; catch 2 when all; catch 3 when all;", 1, 2);
        chance("catch 0 when all; catch 2 when all;", 1, 0);
        chance("catch 0 - 5 when all; catch 2 when all;", 1, 0);
        chance("catch 1 when not all;".repeat(22) + "catch 7 when all;", 1, 7);
    }

    // Promise 17: "NONE when there is none, or a number can't be"
    private void chanceThatCanBe() {
        HookBoard x = Check.board(PLAIN + "catch press * 10 + shake when all;", 2, 1);
        x.hook(1, 0, 0);
        x.loops(1, 1);
        x.loops(0, 1);
        for (int cell : new int[] {LEAST, -1, 0, 1, 2, MOST}) {
            for (int press : new int[] {LEAST, -1, 0, 99, 100, MOST}) {
                for (int shake : new int[] {LEAST, -1, 0, 9, 99, 100, MOST}) {
                    boolean can = cell == 1 && press >= 0 && press <= 99 && shake >= 0 && shake <= 99;
                    due("17: chance(" + cell + ", " + press + ", " + shake + ")", x.chance(cell, press, shake),
                        can ? Math.min(1000, press * 10 + shake) : NONE);
                }
            }
        }
    }

    /** Whether a SUM is just that number, told by TESTS that are true one after the other. */
    private void sum(String sum, String same) {
        chance("catch 1 when " + sum + " < " + same + "; catch 2 when " + sum + " > " + same + "; catch 3 when " + sum + " = "
            + same + ";", 1, 3);
    }

    // I: "each sum, difference, product above 10 to the 9 is that, below -10 to the 9 likewise"
    private void sumsWithinLimits() {
        String top = "1000 * 1000 * 1000";
        String bottom = "(0 - " + top + ")";
        chance("catch " + top + " / 1000 / 1000 when all;", 1, 1000);
        chance("catch (" + top + " - 1) - 9999 * 9999 * 10 - 9999 * 20 + 1 - 9 when all;", 1, 1);
        chance("catch 1 when " + top + " - 1 < " + top + ";", 1, 1);
        sum(top + " + 1", top);
        sum(top + " + 9999", top);
        sum(top + " + " + top, top);
        sum("1 + " + top, top);
        sum(top + " - (0 - 1)", top);
        sum(top + " * 2", top);
        sum("2 * (" + top + ")", top);
        sum(top + " * (" + top + ")", top);
        sum(bottom + " * " + bottom, top);
        sum(bottom + " - 1", bottom);
        sum(bottom + " - 9999", bottom);
        sum(bottom + " + " + bottom, bottom);
        sum(bottom + " - " + top, bottom);
        sum(bottom + " * 2", bottom);
        sum(bottom + " * (" + top + ")", bottom);
        sum("0 - " + top + " - 1 + 1", "1 - " + top);
        sum(top + " + 1 - 1", top + " - 1");
        sum(top + " - 1 + 1", top);
        sum(top + " - 1", "9999 * 9999 * 10 + 9999 * 20 + 9");
        sum("9999 * 9999 * 10 + 9999 * 20 + 9 + 1", top);
        sum("9999 * 9999 * 10 + 9999 * 20 + 9 + 2", top);
        sum("9999 * 9999 * 9999 / 9999", "1000 * 1000 * 1000 / 9999");
        chance("catch 1 when 0 - " + top + " < 1 - " + top + ";", 1, 1);
        sum("min(" + top + " + 5, " + top + ")", top);
        sum("max(" + bottom + " - 5, " + bottom + ")", bottom);
    }

    // I: "/ gives the greatest whole number not above, by 0 it gives 0"
    private void quotients() {
        int[][] due = {{7, 2, 3}, {6, 2, 3}, {0, 5, 0}, {1, 9999, 0}, {9999, 1, 9999}, {9999, 9999, 1}, {5, 0, 0}, {0, 0, 0}};
        for (int[] d : due) {
            sum(d[0] + " / " + d[1], "" + d[2]);
        }
        sum("(0 - 7) / 2", "(0 - 4)");
        sum("7 / (0 - 2)", "(0 - 4)");
        sum("(0 - 7) / (0 - 2)", "3");
        sum("(0 - 6) / 2", "(0 - 3)");
        sum("(0 - 1) / 9999", "(0 - 1)");
        sum("(0 - 5) / 0", "0");
        sum("1000 * 1000 * 1000 / (0 - 1)", "(0 - 1000 * 1000 * 1000)");
        sum("(0 - 1000 * 1000 * 1000) / (0 - 1)", "1000 * 1000 * 1000");
        sum("5 / (3 - 3)", "0");
        sum("5 / 0 + 4", "4");
        sum("5 / 0 / 0", "0");
        sum("7 / 2 * 2", "6");
        sum("7 * 2 / 2", "7");
        sum("100 / 7 / 2", "7");
        sum("10 - 4 - 3", "3");
        sum("10 - (4 - 3)", "9");
        sum("10 - 4 + 3", "9");
        sum("2 + 3 * 4", "14");
        sum("2 * 3 + 4", "10");
        sum("20 - 2 * 3 - 4 / 2", "12");
    }

    private void holds(String test, boolean want) {
        chance("catch 5 when " + test + ";", 1, want ? 5 : 0);
    }

    // I: "TEST: BOTH { or BOTH }. BOTH: FACT { and FACT }", "SIGN < or > or ="
    private void signs() {
        int[] numbers = {0, 1, 2, 9998, 9999};
        for (int a : numbers) {
            for (int b : numbers) {
                holds(a + " < " + b, a < b);
                holds(a + " > " + b, a > b);
                holds(a + " = " + b, a == b);
                String[] signs = {"<", ">", "="};
                boolean[] so = {a < b, a > b, a == b};
                for (int i = 0; i < 3; i++) {
                    String fact = a + " " + signs[i] + " " + b;
                    holds("not " + fact, !so[i]);
                    holds(fact + " and all", so[i]);
                    holds("all and " + fact, so[i]);
                    holds(fact + " or not all", so[i]);
                    holds("not all or " + fact, so[i]);
                    holds("[" + fact + "] and not not " + fact, so[i]);
                }
                sum("min(" + a + ", " + b + ")", "" + Math.min(a, b));
                sum("max(" + a + ", " + b + ")", "" + Math.max(a, b));
            }
        }
        String[] facts = {"not all", "all"};
        for (int i = 0; i < 8; i++) {
            boolean a = (i & 1) != 0;
            boolean b = (i & 2) != 0;
            boolean c = (i & 4) != 0;
            String[] f = {facts[a ? 1 : 0], facts[b ? 1 : 0], facts[c ? 1 : 0]};
            holds(f[0] + " or " + f[1] + " and " + f[2], a || b && c);
            holds(f[0] + " and " + f[1] + " or " + f[2], a && b || c);
            holds("[" + f[0] + " or " + f[1] + "] and " + f[2], (a || b) && c);
            holds("not [" + f[0] + " or " + f[1] + "] or " + f[2], !(a || b) || c);
            holds("not [" + f[0] + " and " + f[1] + " and " + f[2] + "]", !(a && b && c));
            holds("not not " + f[0], a);
        }
        holds("is a", true);
        holds("not is a", false);
    }

    // I: "They are of a HOOK: PRESS, SHAKE (0 .. 99 each) as told, LOOPS, LINT of its CELL, WORN, its row and column"
    private void factsOfAHook() {
        String[] facts = {"press", "shake", "loops", "lint", "worn", "row", "column"};
        int[] due = {98, 99, 8, 6, 145, 2, 1};
        for (int i = 0; i < facts.length; i++) {
            HookBoard x = Check.board(PLAIN + "kind b stiff 1 opens 1 tires 145 tears 1;catch 0 when is a; catch 1000 when lint = 0;"
                + "catch " + facts[i] + " when is b; lint 6 when is b; lint 1 when is a;", 3, 3);
            x.hook(7, 1, 4);
            x.loops(7, 9);
            x.hook(8, 0, 0);
            x.loops(8, 3);
            x.rounds(1, 0, 0, 0);
            due("17: " + facts[i], x.chance(7, 98, 99), due[i]);
            due("17: of the other KIND", x.chance(8, 98, 99), 0);
        }
    }
}
