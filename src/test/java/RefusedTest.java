import java.util.ArrayList;
import java.util.List;
import java.util.function.ToLongFunction;

/**
 * A call that is refused leaves all that the document says stays: each of them is made on objects in several states, and
 * whatever an object can tell is told ahead of the call and behind it.
 */
public final class RefusedTest {
    private static final int NONE = HookBoard.NONE;
    private static final int LEAST = Integer.MIN_VALUE;
    private static final int MOST = Integer.MAX_VALUE;
    private static final String TEXT = "kind a stiff 10 opens 100 tires 100 tears 200; kind b stiff 7 opens 50 tires 300 tears 50;"
        + "catch 900 - lint * 30 when is a; catch press * 9 + 100 when all; lint 2 when is b; lint 1 when press > 5;";

    private record Call(String name, long answer, ToLongFunction<HookBoard> run) { }

    private final Check check = new Check();
    private final List<Call> calls = new ArrayList<>();

    public static void main(String[] args) {
        RefusedTest test = new RefusedTest();
        test.feedEndText();
        test.acts();
        test.chances();
        test.pulls();
        test.patches();
        for (Call call : test.calls) {
            for (int state = 0; state < 5; state++) {
                test.stays(call, state);
            }
        }
        test.textsWithAFault();
        test.fullOfActs();
        test.fullOfPatches();
        test.check.finish();
    }

    private void refused(String name, ToLongFunction<HookBoard> run) {
        calls.add(new Call(name, NONE, run));
    }

    private static long truth(boolean b) {
        return b ? 1 : 0;
    }

    /** New; told; drawn and pulled; told as known at an ACT; behind a FAULT. */
    private static HookBoard state(int state) {
        HookBoard x = new HookBoard();
        if (state == 0) {
            return x;
        }
        Check.text(x, TEXT, 2, 2);
        int[][] hooks = {{0, 0, 5}, {1, 1, 0}, {3, 0, 2}};
        for (int[] h : hooks) {
            x.hook(h[0], h[1], h[2]);
            x.loops(h[0], 4);
        }
        x.rounds(3, 50, 20, 7);
        x.annul(6);
        if (state > 1) {
            x.table(30, 3);
            x.draw(90, 9, 3);
            x.pull();
            x.peel(true, 0x1234);
            x.patch(5, 9, 3);
            x.patch(5, 8, 2);
            x.patch(5, 8, 4);
            x.force(6, 8);
            x.choose(1, 300);
        }
        if (state > 2) {
            x.wash();
            x.as(7);
            x.patch(1, 1, 1);
        }
        if (state > 3) {
            Check.text(x, "kind a stiff 1000", 1, 1);
        }
        x.feed(0x20202020, 0x20202020, 0x20202020, 0x20202020, 0x20202020);
        return x;
    }

    private static List<Long> told(HookBoard x) {
        List<Long> told = toldButFault(x);
        told.add((long) x.fault(0));
        told.add((long) x.fault(1));
        return told;
    }

    /** All that can be told without a change; some 100 calls. */
    private static List<Long> toldButFault(HookBoard x) {
        List<Long> told = new ArrayList<>();
        for (int what = 0; what < 7; what++) {
            told.add((long) x.all(what));
        }
        for (int k = 0; k < 3; k++) {
            for (int what = 0; what < 4; what++) {
                told.add((long) x.kind(k, what));
            }
            for (int what = 0; what < 3; what++) {
                told.add((long) x.front(k, what));
            }
        }
        for (int cell = 0; cell < 5; cell++) {
            for (int what = 0; what < 6; what++) {
                told.add((long) x.cell(cell, what));
            }
            told.add((long) x.chance(cell, 10, 20));
            told.add((long) x.caught(cell));
            told.add((long) x.step(cell));
            told.add(x.load(cell, true));
            told.add(x.load(cell, false));
            told.add(x.odds(cell));
            told.add(x.list(cell));
            told.add((long) x.chosen(cell));
        }
        told.add((long) x.listed());
        told.add((long) x.until(90));
        told.add((long) x.sure(500));
        told.add(x.greatest());
        told.add((long) x.hung(60));
        told.add(x.work());
        return told;
    }

    private void stays(Call call, int state) {
        HookBoard x = state(state);
        List<Long> ahead = told(x);
        String label = call.name + " in state " + state;
        check.due(label, call.run.applyAsLong(x), call.answer);
        check.due(label + ": all stays", told(x).equals(ahead), true);
        HookBoard other = state(state);
        check.due(label + ": later answers too", later(x, call.answer == -2).equals(later(other, call.answer == -2)), true);
    }

    /** What comes of calls that follow: the next ACT, a draw, a pull, a peel, a choice, and (if it stays) the tape. */
    private static List<Long> later(HookBoard x, boolean tapeGoes) {
        List<Long> later = new ArrayList<>();
        toldAnew(x, later);
        later.add((long) x.pull());
        later.add(x.greatest());
        later.add((long) x.peel(false, 0x1111));
        later.add(x.work());
        later.add((long) x.draw(40, 40, 40));
        later.add((long) x.pull());
        later.add(x.greatest());
        later.add((long) x.table(70, 7));
        later.add(x.odds(2));
        later.add((long) x.choose(99, 20000));
        later.add((long) x.patch(6, 6, 6));
        later.add((long) x.force(6, 6));
        later.add((long) x.choose(99, 20000));
        later.add((long) x.wash());
        later.add((long) x.rounds(2, 2, 2, 2));
        later.add((long) x.all(3));
        later.add((long) x.cell(0, 2));
        if (!tapeGoes) {
            later.add((long) x.feed(1, 2, 3, 4, 5));
        }
        return later;
    }

    /** As known at no ACT, and then once more at the last one. */
    private static void toldAnew(HookBoard x, List<Long> told) {
        x.as(0);
        told.add((long) x.all(4));
        x.as(NONE);
        told.add((long) x.all(4));
        told.add((long) x.listed());
        for (int what = 0; what < 6; what++) {
            told.add((long) x.cell(0, what));
        }
    }

    private void feedEndText() {
        for (int n : new int[] {LEAST, -1, 21, 701, MOST}) {
            calls.add(new Call("end(" + n + ")", 0, x -> truth(x.end(n))));
        }
        for (int n : new int[] {LEAST, -1, 0, 9, 64, MOST}) {
            calls.add(new Call("text(" + n + ", 1)", -2, x -> x.text(n, 1)));
            calls.add(new Call("text(1, " + n + ")", -2, x -> x.text(1, n)));
        }
        for (int what : new int[] {LEAST, -1, 2, MOST}) {
            refused("fault(" + what + ")", x -> x.fault(what));
            refused("kind(0, " + what + ")", x -> x.kind(0, what == 2 ? 4 : what));
            refused("kind(" + what + ", 0)", x -> x.kind(what, 0));
        }
    }

    private void acts() {
        for (int n : new int[] {LEAST, -1, 4, 64, MOST}) {
            refused("hook(" + n + ", 0, 0)", x -> x.hook(n, 0, 0));
            refused("hook(0, " + n + ", 0)", x -> x.hook(0, n, 0));
            refused("hook(0, 0, slack)", x -> x.hook(0, 0, n == 4 ? 100 : n == 64 ? 101 : n));
            refused("loops(" + n + ", 1)", x -> x.loops(n, 1));
            refused("loops(0, n)", x -> x.loops(0, n == 4 ? 10 : n));
            refused("cell(" + n + ", 0)", x -> x.cell(n, 0));
            refused("cell(0, what)", x -> x.cell(0, n == 4 ? 6 : n));
            refused("chance(" + n + ", 0, 0)", x -> x.chance(n, 0, 0));
            refused("caught(" + n + ")", x -> x.caught(n));
        }
        for (int n : new int[] {LEAST, -1, 100, MOST}) {
            refused("rounds(0 ..)", x -> x.rounds(n == -1 ? 0 : n == 100 ? 11 : n, 0, 0, 0));
            refused("rounds(1, " + n + ", 0, 0)", x -> x.rounds(1, n, 0, 0));
            refused("rounds(1, 0, " + n + ", 0)", x -> x.rounds(1, 0, n, 0));
            refused("annul(" + n + ")", x -> x.annul(n));
            calls.add(new Call("as(n)", 0, x -> truth(x.as(n == -1 ? -2 : n))));
            refused("list(" + n + ")", x -> x.list(n));
        }
        refused("rounds(1, 0, 0, -1)", x -> x.rounds(1, 0, 0, -1));
        refused("rounds(1, 0, 0, LEAST)", x -> x.rounds(1, 0, 0, LEAST));
        refused("annul(0)", x -> x.annul(0));
        refused("annul of one that is VOID", x -> x.annul(6));
        refused("annul of one that tells so", x -> x.annul(8));
        refused("annul of one behind the last", x -> x.annul(x.all(2) + 1));
        refused("annul of one behind the last", x -> truth(x.as(x.all(2) + 1)) - 1);
        refused("until(LEAST)", x -> x.until(Long.MIN_VALUE));
    }

    private void chances() {
        for (int n : new int[] {LEAST, -1, 100, MOST}) {
            refused("chance(0, " + n + ", 0)", x -> x.chance(0, n, 0));
            refused("chance(0, 0, " + n + ")", x -> x.chance(0, 0, n));
            refused("table(" + n + ", 0)", x -> x.table(n, 0));
            refused("table(0, " + n + ")", x -> x.table(0, n));
            refused("draw(" + n + ", 0, 0)", x -> x.draw(n, 0, 0));
            refused("draw(0, " + n + ", 0)", x -> x.draw(0, n, 0));
            refused("odds(" + n + ")", x -> x.odds(n));
            refused("sure(p)", x -> x.sure(n == 100 ? 1001 : n));
        }
        refused("sure(0)", x -> x.sure(0));
        refused("draw(0, 0, -1)", x -> x.draw(0, 0, -1));
        refused("draw(0, 0, LEAST)", x -> x.draw(0, 0, LEAST));
    }

    private void pulls() {
        for (int n : new int[] {LEAST, -1, 64, MOST}) {
            refused("step(" + n + ")", x -> x.step(n));
            refused("load(" + n + ")", x -> x.load(n, true));
            refused("hung(n)", x -> x.hung(n == 64 ? 10000001 : n));
            refused("front(" + n + ", 0)", x -> x.front(n, 0));
            refused("front(0, " + n + ")", x -> x.front(0, n));
        }
        for (int n : new int[] {LEAST, -1, 0, 0x10, 0xa, 0xa1, 0xa11, 0xa111, 0x10001, MOST}) {
            refused("peel(true, " + n + ")", x -> x.peel(true, n));
            refused("peel(false, " + n + ")", x -> x.peel(false, n));
        }
    }

    private void patches() {
        for (int n : new int[] {LEAST, -1, 100, MOST}) {
            refused("patch(" + n + ", 1, 1)", x -> x.patch(n, 1, 1));
            refused("patch(1, bears, 1)", x -> x.patch(1, n == -1 ? 0 : n == 100 ? 1000 : n, 1));
            refused("patch(1, 1, cost)", x -> x.patch(1, 1, n == -1 ? 0 : n == 100 ? 1000 : n));
            refused("force(" + n + ", 1)", x -> x.force(n, 1));
            refused("force(1, force)", x -> x.force(1, n == -1 ? 0 : n == 100 ? 10000 : n));
            refused("choose(" + n + ", 1)", x -> x.choose(n, 1));
            refused("choose(1, open)", x -> x.choose(1, n == 100 ? 20001 : n));
            refused("chosen(" + n + ")", x -> x.chosen(n));
            refused("found(N)", x -> x.found(n == -1 ? 0 : n, 0, 0, 0, true));
            refused("found(k)", x -> x.found(50, 5, 5, n, true));
            refused("tests(N)", x -> x.tests(n, 1, 1));
            refused("tests(p)", x -> x.tests(5, 1, n == 100 ? 0 : n == MOST ? 1001 : n));
            refused("all(what)", x -> x.all(n == 100 ? 7 : n));
        }
        refused("tests of none bad", x -> x.tests(50, 0, 1));
    }

    /** Promise 4: "NONE with a FAULT .. (all stays)", whatever was read ahead of it. */
    private void textsWithAFault() {
        String ahead = "kind z stiff 3 opens 4 tires 5 tears 6; catch 1 when all; lint 9 when all;";
        String[] faults = {"?", "kind y stiff 0;", "catch 1 when is a;", "catch (((((((1))))))) when all;",
            "lint 1 when all;".repeat(22), "kind"};
        for (int state = 0; state < 5; state++) {
            for (String fault : faults) {
                HookBoard x = state(state);
                List<Long> before = toldButFault(x);
                String label = "text " + fault + " in state " + state;
                check.due(label, Check.text(x, ahead + fault, 8, 8), NONE);
                check.due(label + ": all stays", toldButFault(x).equals(before), true);
                check.due(label + ": later answers too", later(x, true).equals(later(state(state), true)), true);
            }
        }
    }

    /** With 120 ACTS each further one is refused. */
    private void fullOfActs() {
        List<ToLongFunction<HookBoard>> more = List.of(x -> x.hook(0, 1, 9), x -> x.loops(0, 9), x -> x.rounds(10, 9, 9, 9),
            x -> x.wash(), x -> x.annul(1), x -> x.annul(2), x -> x.annul(120));
        for (ToLongFunction<HookBoard> act : more) {
            HookBoard x = state(2);
            for (int n = x.all(2); n < 120; n++) {
                x.loops(2, n % 10);
            }
            List<Long> ahead = told(x);
            check.due("a 121st ACT", act.applyAsLong(x), NONE);
            check.due("a 121st ACT: all stays", told(x).equals(ahead), true);
            x.as(0);
            check.due("a 121st ACT: nothing at none", x.all(4), 0);
            x.as(NONE);
            check.due("a 121st ACT: all stays, told anew", told(x).equals(ahead), true);
        }
    }

    /** With 12 PATCHES, 8 PULLS and a full tape each further one is refused; a choice that can't be leaves the latest. */
    private void fullOfPatches() {
        List<ToLongFunction<HookBoard>> more = List.of(x -> x.patch(5, 999, 1), x -> x.force(5, 9999),
            x -> x.feed(1, 2, 3, 4, 5), x -> x.choose(0, 0));
        for (ToLongFunction<HookBoard> one : more) {
            HookBoard x = full();
            List<Long> ahead = told(x);
            check.due("one too many", one.applyAsLong(x), NONE);
            check.due("one too many: all stays", told(x).equals(ahead), true);
            check.due("one too many: later answers too", later(x, false).equals(later(full(), false)), true);
            check.due("one too many: the tape has 700", truth(x.end(701)), 0);
            check.due("one too many: the tape has 700", truth(x.end(700)), 1);
            check.due("one too many: it is blank", x.text(1, 1), 0);
        }
    }

    private static HookBoard full() {
        HookBoard x = state(2);
        while (x.patch(5, 3, 3) != NONE) {
            x.force(5, 3);
        }
        for (int n = x.all(6); n < 8; n++) {
            x.force(5, 3);
        }
        x.choose(1, 300);
        x.end(0);
        Check.feed(x, " ".repeat(700));
        return x;
    }
}
