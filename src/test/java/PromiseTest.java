/** For each promise of the document: ordinary inputs, the edges that it names, and wrong inputs. */
public final class PromiseTest {
    private static final int NONE = HookBoard.NONE;
    private static final String KINDS = "kind a stiff 10 opens 100 tires 100 tears 200;"
        + "kind b stiff 20 opens 300 tires 500 tears 300;";
    private static final String SURE_CATCH = KINDS + "catch 1000 when all;";

    private final Check check = new Check();

    public static void main(String[] args) {
        PromiseTest test = new PromiseTest();
        test.newObject();
        test.feed();
        test.end();
        test.text();
        test.fault();
        test.kind();
        test.hookAndLoops();
        test.rounds();
        test.wash();
        test.annul();
        test.as();
        test.cell();
        test.list();
        test.chance();
        test.sums();
        test.tableOddsSure();
        test.fullBoard();
        test.drawCaught();
        test.pullStepLoad();
        test.greatestHung();
        test.peelFrontWork();
        test.patchForceClear();
        test.choose();
        test.found();
        test.tests();
        test.all();
        test.check.finish();
    }

    private void due(String call, long got, long want) {
        check.due(call, got, want);
    }

    private void due(String call, boolean got, boolean want) {
        check.due(call, got, want);
    }

    private static HookBoard board(String text, int wide, int high) {
        return Check.board(text, wide, high);
    }

    // Promise 1
    private void newObject() {
        HookBoard x = new HookBoard();
        int[] all = {1, 0, 0, 0, 0, 0, 0};
        for (int what = 0; what < all.length; what++) {
            due("1: all(" + what + ")", x.all(what), all[what]);
        }
        due("1: cell(0, 0)", x.cell(0, 0), NONE);
        due("1: cell(0, 4)", x.cell(0, 4), 0);
        due("1: cell(0, 5)", x.cell(0, 5), 0);
        due("1: cell(1, 4)", x.cell(1, 4), NONE);
        due("1: chosen(0)", x.chosen(0), NONE);
        due("1: end(1)", x.end(1), false);
        due("1: loops(0, 9)", x.loops(0, 9), 1);
        due("1: rounds", x.rounds(1, 0, 0, 0), 2);
        due("1: list(0)", x.list(0), 0);
    }

    // Promise 2
    private void feed() {
        HookBoard x = new HookBoard();
        for (int n = 20; n <= 700; n += 20) {
            due("2: feed", x.feed(-1, 0, 0, 0, 0), n);
        }
        due("2: feed of a full tape", x.feed(0, 0, 0, 0, 0), NONE);
        due("2: end(701)", x.end(701), false);
        due("2: end(681)", x.end(681), true);
        due("2: feed on 681", x.feed(0, 0, 0, 0, 0), NONE);
        due("2: end(680)", x.end(680), true);
        due("2: feed on 680", x.feed(0, 0, 0, 0, 0), 700);
        due("2: text", x.text(1, 1), NONE);
        due("2: feed behind a text", x.feed(0, 0, 0, 0, 0), 20);
        HookBoard y = new HookBoard();
        // "lint 1 when all;    " as bytes, the highest first
        due("2: feed", y.feed(0x6c696e74, 0x20312077, 0x68656e20, 0x616c6c3b, 0x20202020), 20);
        due("2: text", y.text(1, 1), 1);
    }

    // Promise 3
    private void end() {
        HookBoard x = new HookBoard();
        due("3: end(0) of none", x.end(0), true);
        due("3: end(-1)", x.end(-1), false);
        x.feed(0x6c696e74, 0x20312077, 0x68656e20, 0x616c6c3b, 0x3f3f3f3f);
        due("3: end(21)", x.end(21), false);
        due("3: end(min)", x.end(Integer.MIN_VALUE), false);
        due("3: end(max)", x.end(Integer.MAX_VALUE), false);
        due("3: end(20)", x.end(20), true);
        due("3: end(16)", x.end(16), true);
        due("3: end(17)", x.end(17), false);
        due("3: text", x.text(1, 1), 1);
        due("3: end(1) behind a text", x.end(1), false);
    }

    // Promise 4
    private void text() {
        HookBoard x = new HookBoard();
        due("4: no bytes", x.text(8, 8), 0);
        due("4: all(0)", x.all(0), 64);
        due("4: text", Check.text(x, SURE_CATCH, 2, 1), 3);
        x.hook(0, 0, 0);
        x.hook(1, 1, 0);
        x.loops(0, 1);
        x.loops(1, 1);
        x.patch(1, 1, 1);
        x.force(1, 1);
        x.as(3);
        due("4: table", x.table(0, 0), 2);
        due("4: draw", x.draw(0, 0, 0), 1);
        due("4: pull", x.pull(), 1);
        due("4: peel", x.peel(true, 1), 1);
        due("4: a fault", Check.text(x, "kind", 3, 3), NONE);
        due("4: the tape goes with a fault", x.end(1), false);
        int[][] cant = {{0, 1}, {1, 0}, {9, 1}, {1, 9}, {-1, 1}, {1, -1}, {Integer.MAX_VALUE, 2}};
        for (int[] size : cant) {
            String call = "4: text(" + size[0] + ", " + size[1] + ")";
            due(call, Check.text(x, "lint 1 when all;", size[0], size[1]), -2);
            due("4: the tape goes with " + call, x.end(1), false);
            due(call + " of no bytes", x.text(size[0], size[1]), -2);
        }
        due("4: fault(0) stays", x.fault(0), 1);
        due("4: fault(1) stays", x.fault(1), 4);
        int[] stays = {2, 2, 4, 3, 2, 1, 1};
        for (int what = 0; what < stays.length; what++) {
            due("4: all(" + what + ") stays", x.all(what), stays[what]);
        }
        due("4: odds stay", x.odds(2), 0);
        due("4: caught stays", x.caught(0), 1);
        due("4: greatest stays", x.greatest(), 100);
        due("4: work stays", x.work(), 100);
        due("4: feed behind -2", x.feed(0x6c696e74, 0x20312077, 0x68656e20, 0x616c6c3b, 0x20202020), 20);
        due("4: text behind -2", x.text(1, 1), 1);
        due("4: the tape goes", x.end(1), false);
        int[] goes = {1, 0, 0, 0, 0, 1, 1};
        for (int what = 0; what < goes.length; what++) {
            due("4: all(" + what + ") goes", x.all(what), goes[what]);
        }
        due("4: no odds", x.odds(0), NONE);
        due("4: no sure", x.sure(1), NONE);
        due("4: no caught", x.caught(0), NONE);
        due("4: no pull", x.pull(), NONE);
        due("4: no step", x.step(0), NONE);
        due("4: no load", x.load(0, true), NONE);
        due("4: no greatest", x.greatest(), NONE);
        due("4: no hung", x.hung(0), NONE);
        due("4: no peel", x.peel(true, 1), NONE);
        due("4: no front", x.front(0, 0), NONE);
        due("4: no work", x.work(), NONE);
        due("4: loops are 0 again", x.cell(0, 4), 0);
        due("4: as() is NONE", x.wash(), 1);
        due("4: all(3)", x.all(3), 1);
    }

    private void faulty(String text, int fault, int place) {
        HookBoard x = new HookBoard();
        int answer = Check.text(x, text, 1, 1);
        due("5: text " + text, answer < 0 ? NONE : 0, fault == 0 ? 0 : NONE);
        due("5: fault(0) of " + text, x.fault(0), fault);
        due("5: fault(1) of " + text, x.fault(1), place);
    }

    // Promise 5
    private void fault() {
        HookBoard x = new HookBoard();
        due("5: fault(0) ahead", x.fault(0), 0);
        due("5: fault(1) ahead", x.fault(1), NONE);
        Check.text(x, "?", 1, 1);
        due("5: fault(0)", x.fault(0), 1);
        due("5: fault(1)", x.fault(1), 0);
        due("5: fault(2)", x.fault(2), NONE);
        due("5: fault(-1)", x.fault(-1), NONE);
        Check.text(x, " ", 1, 1);
        due("5: fault(0) without", x.fault(0), 0);
        due("5: fault(1) without", x.fault(1), NONE);
        goesOn();
        endsTooSoon();
        blanks();
        numbers();
        names();
        deep();
        many();
    }

    private void goesOn() {
        faulty("catch 1 when all", 1, 16);
        faulty("catch 1 when all;;", 1, 17);
        faulty("catch 1 when all and;", 1, 20);
        faulty("catch 1 when [all;", 1, 17);
        faulty("catch 1 when [all);", 1, 17);
        faulty("catch 1 when all];", 1, 16);
        faulty("catch (1] when all;", 1, 8);
        faulty("catch -1 when all;", 1, 6);
        faulty("catch 1 + when all;", 1, 10);
        faulty("catch 1 2 when all;", 1, 8);
        faulty("catch min(1) when all;", 1, 11);
        faulty("catch min(1,2,3) when all;", 1, 13);
        faulty("catch max 1,2 when all;", 1, 10);
        faulty("catch 1 when 1 < 2 < 3;", 1, 19);
        faulty("catch 1 when (1 < 2);", 1, 16);
        faulty("catch 1 when [1] < 2;", 1, 15);
        faulty("catch 1 when 1 <= 2;", 1, 16);
        faulty("catch all when all;", 1, 6);
        faulty("stiff 5;", 1, 0);
        faulty("catch 1 when all;\tlint 1 when all;", 1, 17);
        faulty("catch 1 when all; \u00e9", 1, 18);
        faulty("catch 1 when abcdefgh;", 1, 13);
        faulty("catch 1 when kind;", 1, 13);
        faulty("kind 12345 stiff", 1, 5);
        faulty("catchy 1 when all;", 1, 0);
        faulty("catch 1 when not all or not all and all;", 0, NONE);
    }

    private void endsTooSoon() {
        faulty("k", 1, 0);
        faulty("kind", 1, 4);
        faulty("kind  ", 1, 6);
        faulty("kind a", 1, 6);
        faulty("kind a stif", 1, 7);
        faulty("catch", 1, 5);
        faulty("catch (", 1, 7);
        faulty("catch 1 when 1 <", 1, 16);
        faulty("catch 1 when is\n", 1, 16);
    }

    private void blanks() {
        faulty("catch 5when all;", 1, 7);
        faulty("catch5 when all;", 1, 5);
        faulty("kind a stiff5 opens 5 tires 5 tears 5;", 1, 12);
        faulty("kind a stiff 5opens 5 tires 5 tears 5;", 1, 14);
        faulty("kind a stiff 0opens", 2, 13);
        faulty("kind a5 stiff", 1, 6);
        faulty("\n\ncatch(press+1)when[all]and[not all];\nlint\n1*2 when(1)<(2);\n", 0, NONE);
    }

    private void numbers() {
        faulty("kind a stiff 1 opens 1 tires 0 tears 1;", 0, NONE);
        faulty("kind a stiff 999 opens 9999 tires 1000 tears 9999;", 0, NONE);
        faulty("kind a stiff 0001 opens 0001 tires 0000 tears 0001;", 0, NONE);
        faulty("kind a stiff 0000 opens", 2, 13);
        faulty("kind a stiff 00001 opens", 1, 17);
        faulty("kind a stiff 1000 opens", 2, 13);
        faulty("kind a stiff 1 opens 0 tires", 2, 21);
        faulty("kind a stiff 1 opens 10000 tires", 1, 25);
        faulty("kind a stiff 1 opens 1 tires 1001 tears", 2, 29);
        faulty("kind a stiff 1 opens 1 tires 0 tears 0;", 2, 37);
        faulty("kind a stiff opens 1", 1, 13);
        faulty("catch 12345 when all;", 1, 10);
        faulty("catch 0 when 99999 < 1;", 1, 17);
        faulty("catch 0000 when 9999 > 1;", 0, NONE);
    }

    private void names() {
        faulty("kind abcdef stiff 1 opens 1 tires 0 tears 1;", 0, NONE);
        faulty("kind abcdefg stiff 1 opens 1 tires 0 tears 1;", 1, 11);
        faulty("kind columns stiff 1", 1, 11);
        faulty("kind column stiff 1", 1, 5);
        faulty("kind lint stiff 1", 1, 5);
        faulty("kind lints stiff 1 opens 1 tires 0 tears 1;", 0, NONE);
        faulty("kind A stiff 1 opens 1 tires 0 tears 1;kind a stiff 1 opens 1 tires 0 tears 1;", 0, NONE);
        faulty("kind azAZ stiff 1 opens 1 tires 0 tears 1;", 0, NONE);
        faulty(KINDS + "kind b stiff", 3, 97);
        faulty(KINDS + "catch 1 when is a or is b;", 0, NONE);
        faulty(KINDS + "catch 1 when is a or is c;", 3, 116);
        faulty(KINDS + "catch 1 when is abcdefg;", 1, 114);
        faulty("catch 1 when is a; kind a stiff 1 opens 1 tires 0 tears 1;", 3, 16);
        faulty("catch 1 when is 5;", 1, 16);
    }

    private void deep() {
        faulty("catch ((((((1)))))) when all;", 0, NONE);
        faulty("catch (((((((1))))))) when all;", 4, 12);
        faulty("catch (((((min(1,2)))))) when all;", 0, NONE);
        faulty("catch ((((((min(1,2))))))) when all;", 4, 15);
        faulty("catch min(min(min(min(min(min(1,2),2),2),2),2),2) when all;", 0, NONE);
        faulty("catch min(((((((1))))),2) when all;", 4, 15);
        faulty("catch max(((((1)))),((((((2)))))) when all;", 4, 25);
        faulty("catch max((((((1))))),(((((2)))))) + ((((((3)))))) when all;", 0, NONE);
        faulty("catch 1 when not not [ not [ (1) < 2 ]];", 0, NONE);
        faulty("catch 1 when not not [ not [ ((1)) < 2 ]];", 4, 30);
        faulty("catch 1 when [[[[[[all]]]]]];", 0, NONE);
        faulty("catch 1 when [[[[[[[all]]]]]]];", 4, 19);
        faulty("catch 1 when not not not not not not all and not all;", 0, NONE);
        faulty("catch 1 when not not not not not not (1) < 2;", 4, 37);
        faulty("catch ((((((1)))))) + ((((((2)))))) when all;", 0, NONE);
        faulty("catch ((((((1 (", 1, 14);
    }

    private void many() {
        String rule = "lint 1 when all;";
        faulty(rule.repeat(24) + " \n", 0, NONE);
        faulty(rule.repeat(24) + " " + rule, 5, 24 * 16 + 1);
        faulty(rule.repeat(24) + "?", 5, 24 * 16);
        faulty(rule.repeat(23) + "?", 1, 23 * 16);
        StringBuilder kinds = new StringBuilder();
        for (char name = 'a'; name <= 'h'; name++) {
            kinds.append("kind ").append(name).append(" stiff 1 opens 1 tires 0 tears 1;");
        }
        faulty(kinds + "lint 1 when is h;", 0, NONE);
        faulty(kinds + " kind a stiff", 5, kinds.length() + 1);
        faulty(kinds + " kind", 5, kinds.length() + 1);
        faulty(kinds + " kinds", 1, kinds.length() + 1);
    }

    // Promise 6
    private void kind() {
        HookBoard x = new HookBoard();
        due("6: kind without", x.kind(0, 0), NONE);
        x = board("lint 1 when all;" + KINDS, 1, 1);
        int[][] kinds = {{10, 100, 100, 200}, {20, 300, 500, 300}};
        for (int k = 0; k < 2; k++) {
            for (int what = 0; what < 4; what++) {
                due("6: kind(" + k + ", " + what + ")", x.kind(k, what), kinds[k][what]);
            }
            due("6: kind(k, 4)", x.kind(k, 4), NONE);
            due("6: kind(k, -1)", x.kind(k, -1), NONE);
        }
        due("6: kind(2, 0)", x.kind(2, 0), NONE);
        due("6: kind(-1, 0)", x.kind(-1, 0), NONE);
    }

    // Promises 7 and 8
    private void hookAndLoops() {
        HookBoard x = board(KINDS, 2, 3);
        due("7: hook(5, 1, 99)", x.hook(5, 1, 99), 1);
        due("7: hook(0, 0, 0)", x.hook(0, 0, 0), 2);
        int[][] cant = {{6, 0, 0}, {-1, 0, 0}, {0, 2, 0}, {0, -1, 0}, {0, 0, 100}, {0, 0, -1}};
        for (int[] c : cant) {
            due("7: hook(" + c[0] + ", " + c[1] + ", " + c[2] + ")", x.hook(c[0], c[1], c[2]), NONE);
        }
        due("8: loops(5, 9)", x.loops(5, 9), 3);
        due("8: loops(0, 0)", x.loops(0, 0), 4);
        due("8: loops(6, 1)", x.loops(6, 1), NONE);
        due("8: loops(-1, 1)", x.loops(-1, 1), NONE);
        due("8: loops(0, 10)", x.loops(0, 10), NONE);
        due("8: loops(0, -1)", x.loops(0, -1), NONE);
        due("8: loops of 5", x.cell(5, 4), 9);
        due("7: kind of 5", x.cell(5, 0), 1);
        due("7: slack of 5", x.cell(5, 1), 99);
        x.wash();
        due("7: worn of 5", x.cell(5, 2), 10);
        due("7: another in its place", x.hook(5, 0, 7), 6);
        due("7: kind of 5", x.cell(5, 0), 0);
        due("7: slack of 5", x.cell(5, 1), 7);
        due("7: worn of 5", x.cell(5, 2), 0);
        due("7: loops of 5 stay", x.cell(5, 4), 9);
        due("7: all(2)", x.all(2), 6);
        for (int n = 7; n <= 120; n++) {
            due("10: wash", x.wash(), n);
        }
        due("7: a 121st", x.hook(0, 0, 0), NONE);
        due("8: a 121st", x.loops(0, 0), NONE);
        due("9: a 121st", x.rounds(1, 0, 0, 0), NONE);
        due("10: a 121st", x.wash(), NONE);
        due("11: a 121st", x.annul(1), NONE);
        due("11: it did nothing", x.cell(0, 0), 0);
        due("7: all(2)", x.all(2), 120);
    }

    // Promise 9
    private void rounds() {
        HookBoard x = board(KINDS + "catch 500 when loops > 1; catch 1000 when all;"
            + "lint 4 when lint < 8 and is a; lint 0 - 20 when lint > 7; lint worn / 250 + press - shake when is b;", 2, 1);
        int[][] cant = {{0, 0, 0, 0}, {11, 0, 0, 0}, {1, -1, 0, 0}, {1, 100, 0, 0}, {1, 0, -1, 0}, {1, 0, 100, 0},
            {1, 0, 0, -1}, {-1, 0, 0, 0}};
        for (int[] c : cant) {
            due("9: rounds that can't be", x.rounds(c[0], c[1], c[2], c[3]), NONE);
        }
        due("9: rounds", x.rounds(10, 99, 99, Integer.MAX_VALUE), 1);
        x.hook(0, 0, 0);
        x.hook(1, 1, 0);
        x.loops(1, 1);
        due("9: listed", x.listed(), 10);
        // b alone is caught: it loses its loop, for its opens is not below its tears
        due("9: rounds", x.rounds(1, 3, 1, 0), 5);
        due("9: worn of b", x.cell(1, 2), 500);
        due("9: loops of b", x.cell(1, 4), 0);
        due("9: lint of b, as it is then", x.cell(1, 5), 4);
        due("9: lint of a", x.cell(0, 5), 4);
        due("9: greatest", x.list(10), 300);
        x.rounds(1, 0, 9, 0);
        due("9: lint not below 0", x.cell(1, 5), 0);
        due("9: lint 8", x.cell(0, 5), 8);
        due("9: nothing caught", x.list(11), 0);
        due("9: worn stays", x.cell(1, 2), 500);
        x.rounds(1, 99, 0, 0);
        due("9: lint not above 9", x.cell(1, 5), 9);
        due("9: lint of a goes", x.cell(0, 5), 0);
        seedGoesOn();
    }

    /** With one hook the seeds are 12345, then those behind it: its chance is told by each of them. */
    private void seedGoesOn() {
        HookBoard x = board("kind a stiff 3 opens 7 tires 0 tears 9999; catch 500 when all;", 1, 1);
        x.hook(0, 0, 0);
        x.loops(0, 1);
        x.rounds(10, 0, 0, 1);
        long seed = 1;
        for (int n = 0; n < 10; n++) {
            seed = (1103515245L * seed + 12345) % 2147483648L;
            due("9: round " + n, x.list(n), seed / 256 % 1000 < 500 ? 7 : 0);
        }
        due("9: listed", x.listed(), 10);
        due("9: tires 0", x.cell(0, 2), 0);
        due("9: opens below tears", x.cell(0, 4), 1);
    }

    // Promise 10
    private void wash() {
        HookBoard x = board("kind a stiff 500 opens 1 tires 995 tears 2; catch 1000 when all; lint 7 when all;", 2, 1);
        x.hook(0, 0, 0);
        x.loops(0, 1);
        x.rounds(1, 0, 0, 0);
        due("10: lint ahead", x.cell(0, 5), 7);
        due("10: worn ahead", x.cell(0, 2), 995);
        due("10: wash", x.wash(), 4);
        due("10: lint", x.cell(0, 5), 0);
        due("10: worn 1000 at most", x.cell(0, 2), 1000);
        due("10: stiffness 1 at least", x.cell(0, 3), 1);
        due("10: no hook", x.cell(1, 2), NONE);
        x.hook(1, 0, 0);
        due("10: a wash ahead of it", x.cell(1, 2), 0);
        due("10: stiffness", x.cell(1, 3), 500);
        x.wash();
        due("10: stiffness", x.cell(1, 3), 495);
    }

    // Promise 11
    private void annul() {
        HookBoard x = board(KINDS, 1, 1);
        due("11: none such", x.annul(1), NONE);
        due("11: none such", x.annul(0), NONE);
        due("11: none such", x.annul(-1), NONE);
        x.hook(0, 0, 5);
        x.hook(0, 1, 6);
        due("11: annul(2)", x.annul(2), 3);
        due("11: the one ahead", x.cell(0, 0), 0);
        due("11: its slack", x.cell(0, 1), 5);
        due("11: it is void", x.annul(2), NONE);
        due("11: it tells so", x.annul(3), NONE);
        x.as(2);
        due("11: as known at 2", x.cell(0, 0), 1);
        due("11: it is void all the same", x.annul(2), NONE);
        due("11: annul(1)", x.annul(1), 4);
        due("11: as known at 2", x.cell(0, 0), 1);
        x.as(3);
        due("11: as known at 3", x.cell(0, 0), 0);
        x.as(4);
        due("11: as known at 4", x.cell(0, 0), NONE);
        due("11: all(2)", x.all(2), 4);
        due("11: a later act", x.wash(), 5);
        due("11: annul of one behind as()", x.annul(5), 6);
    }

    // Promise 12
    private void as() {
        HookBoard x = board(KINDS + "catch 1000 when all;", 2, 1);
        due("12: as(1)", x.as(1), false);
        due("12: as(-2)", x.as(-2), false);
        due("12: as(0)", x.as(0), true);
        x.hook(0, 0, 1);
        x.loops(0, 3);
        due("12: as known at 0", x.cell(0, 0), NONE);
        due("12: all(3)", x.all(3), 0);
        due("12: all(4)", x.all(4), 0);
        due("12: table", x.table(0, 0), 0);
        due("12: as(1)", x.as(1), true);
        due("12: chance as known at 1", x.chance(0, 0, 0), 0);
        due("12: as(3)", x.as(3), false);
        due("12: it did nothing", x.all(3), 1);
        due("12: as(2)", x.as(2), true);
        due("12: chance as known at 2", x.chance(0, 0, 0), 1000);
        x.rounds(2, 0, 0, 0);
        due("12: listed", x.listed(), 0);
        due("12: draw", x.draw(0, 0, 0), 1);
        x.as(0);
        due("12: caught stays", x.caught(0), 1);
        due("12: pull stays", x.pull(), 1);
        due("12: as(NONE)", x.as(NONE), true);
        due("12: listed", x.listed(), 2);
        due("12: all(3)", x.all(3), 3);
        x.wash();
        due("12: always the last one", x.all(3), 4);
    }

    // Promise 13
    private void cell() {
        HookBoard x = board(KINDS + "lint 3 when all;", 2, 2);
        x.hook(3, 1, 42);
        x.loops(3, 6);
        x.wash();
        x.rounds(1, 0, 0, 0);
        int[] told = {1, 42, 10, 19, 6, 3};
        int[] empty = {NONE, NONE, NONE, NONE, 0, 0};
        for (int what = 0; what < 6; what++) {
            due("13: cell(3, " + what + ")", x.cell(3, what), told[what]);
            due("13: cell(2, " + what + ")", x.cell(2, what), empty[what]);
            due("13: cell(4, " + what + ")", x.cell(4, what), NONE);
            due("13: cell(-1, " + what + ")", x.cell(-1, what), NONE);
        }
        due("13: cell(3, 6)", x.cell(3, 6), NONE);
        due("13: cell(3, -1)", x.cell(3, -1), NONE);
    }

    // Promises 14 to 16
    private void list() {
        HookBoard x = board("kind a stiff 10 opens 100 tires 100 tears 100; catch 1000 when all;", 2, 1);
        due("14: listed", x.listed(), 0);
        due("16: until", x.until(Long.MAX_VALUE), NONE);
        x.hook(0, 0, 0);
        x.hook(1, 0, 0);
        x.loops(0, 1);
        x.loops(1, 2);
        x.rounds(3, 0, 0, 0);
        long[] due = {200, 100, 0};
        due("14: listed", x.listed(), 3);
        for (int k = 0; k < 3; k++) {
            due("15: list(" + k + ")", x.list(k), due[k]);
        }
        due("15: list(3)", x.list(3), NONE);
        due("15: list(-1)", x.list(-1), NONE);
        due("16: until(201)", x.until(201), 0);
        due("16: until(200)", x.until(200), 1);
        due("16: until(100)", x.until(100), 2);
        due("16: until(0)", x.until(0), NONE);
        due("16: until(least)", x.until(Long.MIN_VALUE), NONE);
        x.rounds(1, 0, 0, 0);
        due("14: listed", x.listed(), 4);
        x.annul(5);
        due("14: listed", x.listed(), 1);
        due("15: list(0)", x.list(0), 200);
    }

    // Promise 17
    private void chance() {
        HookBoard x = board(KINDS + "catch press * 10 + shake when is a and shake < 50;"
            + "catch 2000 when is b; catch 0 - 5 when row = 1; catch 7 when column = 1;", 2, 2);
        for (int cell = 0; cell < 3; cell++) {
            x.hook(cell, cell % 2, 0);
            x.loops(cell, 1);
        }
        due("17: a", x.chance(0, 12, 34), 154);
        due("17: a, above", x.chance(0, 99, 49), 1000);
        due("17: a, none holds", x.chance(0, 99, 50), 0);
        due("17: b, 1000 at most", x.chance(1, 0, 0), 1000);
        due("17: row 1, 0 at least", x.chance(2, 0, 50), 0);
        due("17: no hook", x.chance(3, 0, 0), NONE);
        due("17: no cell", x.chance(4, 0, 0), NONE);
        due("17: no cell", x.chance(-1, 0, 0), NONE);
        due("17: press 100", x.chance(0, 100, 0), NONE);
        due("17: press -1", x.chance(0, -1, 0), NONE);
        due("17: shake 100", x.chance(0, 0, 100), NONE);
        due("17: shake -1", x.chance(0, 0, -1), NONE);
        x.loops(1, 0);
        due("17: no loops", x.chance(1, 0, 0), 0);
    }

    private void sum(String sum, int press, int shake, long want) {
        HookBoard x = board("kind a stiff 1 opens 1 tires 0 tears 1; catch " + sum + " when all;", 1, 1);
        x.hook(0, 0, 0);
        x.loops(0, 3);
        x.wash();
        due("17: " + sum, x.chance(0, press, shake), want);
    }

    private void holds(String test, boolean want) {
        HookBoard x = board("kind a stiff 1 opens 1 tires 0 tears 1; kind b stiff 1 opens 1 tires 0 tears 1;"
            + "catch 1 when " + test + ";", 3, 2);
        x.hook(4, 1, 0);
        x.loops(4, 3);
        x.wash();
        due("17: " + test, x.chance(4, 5, 6), want ? 1 : 0);
    }

    /** How SUMs and TESTs are told. */
    private void sums() {
        sum("1 + 2 * 3", 0, 0, 7);
        sum("(1 + 2) * 3", 0, 0, 9);
        sum("20 - 5 - 3", 0, 0, 12);
        sum("100 / 10 / 3 * 2", 0, 0, 6);
        sum("7 / 2 * 2", 0, 0, 6);
        sum("10 + (0 - 7) / 2", 0, 0, 6);
        sum("10 + 7 / (0 - 2)", 0, 0, 6);
        sum("10 + (0 - 7) / (0 - 2)", 0, 0, 13);
        sum("5 + press / shake", 9, 0, 5);
        sum("min(press, shake) + max(press, shake) * 10", 3, 4, 43);
        sum("loops * 100 + worn", 0, 0, 310);
        sum("9999 * 9999 * 9999 / 9999 / 9999 * 10", 0, 0, 100);
        sum("1000 + 9999 * 9999 * 99 / 1000 - 9999 * 100 - 100", 0, 0, 1000);
        sum("9999 * 9999 * 9999 - 9999 * 9999 * 9999 + 6", 0, 0, 6);
        sum("9999 * 9999 * 9999 + 9999 * 9999 * 9999 - 9999 * 9999 * 9999 + 6", 0, 0, 6);
        sum("(0 - 9999 * 9999 * 9999 - 5 + 9999 * 9999 * 9999) + 6", 0, 0, 6);
        sum("0007 + 0", 0, 0, 7);
        holds("1 < 2", true);
        holds("2 < 2", false);
        holds("2 > 2", false);
        holds("3 > 2", true);
        holds("2 = 2", true);
        holds("2 = 3", false);
        holds("is b", true);
        holds("is a", false);
        holds("not is a", true);
        holds("not is b or is b", true);
        holds("not [is b or is b]", false);
        holds("all or all and not all", true);
        holds("[all or all] and not all", false);
        holds("not all and not all or all", true);
        holds("not not all", true);
        holds("row = 1 and column = 1 and press = 5 and shake = 6 and loops = 3 and lint = 0 and worn = 10", true);
        holds("not 1 + 1 > 1 * 2 and all", true);
    }

    // Promises 18 to 20
    private void tableOddsSure() {
        HookBoard x = board(KINDS + "catch press * 10 when all;", 3, 1);
        due("19: odds without", x.odds(0), NONE);
        due("20: sure without", x.sure(1), NONE);
        due("18: table without hooks", x.table(0, 0), 0);
        due("19: odds(0)", x.odds(0), 1073741824L);
        due("20: sure(1000)", x.sure(1000), 0);
        x.hook(0, 0, 0);
        x.hook(2, 0, 0);
        x.loops(0, 1);
        x.loops(2, 1);
        due("19: as it was then", x.odds(1), NONE);
        due("18: table", x.table(30, 0), 2);
        // 0: floor(floor(2^30 * .7) * .7); 1: both ways; 2: floor(floor(2^30 * .3) * .3)
        long not = 1073741824L * 700 / 1000;
        long one = 1073741824L * 300 / 1000;
        long[] row = {not * 700 / 1000, one * 700 / 1000 + not * 300 / 1000, one * 300 / 1000};
        due("19: odds(2)", x.odds(2), row[2]);
        due("19: odds(1)", x.odds(1), row[1] + row[2]);
        due("19: odds(0)", x.odds(0), row[0] + row[1] + row[2]);
        due("19: odds(3)", x.odds(3), NONE);
        due("19: odds(-1)", x.odds(-1), NONE);
        due("20: sure(89)", x.sure(89), 2);
        due("20: sure(91)", x.sure(91), 1);
        due("20: sure(509)", x.sure(509), 1);
        due("20: sure(511)", x.sure(511), 0);
        due("20: sure(1000), none by floors", x.sure(1000), 0);
        due("20: sure(0)", x.sure(0), NONE);
        due("20: sure(1001)", x.sure(1001), NONE);
        due("18: table(90, 0)", x.table(90, 0), 2);
        due("20: one too few by floors", x.sure(810), 1);
        due("20: sure(809)", x.sure(809), 2);
        due("18: table(30, 0)", x.table(30, 0), 2);
        due("18: table(100, 0)", x.table(100, 0), NONE);
        due("18: table(0, 100)", x.table(0, 100), NONE);
        due("18: table(-1, 0)", x.table(-1, 0), NONE);
        due("18: table(0, -1)", x.table(0, -1), NONE);
        due("19: it stays", x.odds(2), row[2]);
        due("18: table(0, 0)", x.table(0, 0), 2);
        due("19: no chance", x.odds(1), 0);
        due("20: sure(1)", x.sure(1), 0);
    }

    /** All that a BOARD and its ACTS can hold. */
    private void fullBoard() {
        HookBoard x = board("kind a stiff 999 opens 9998 tires 0 tears 9999; catch 500 + press * 10 when all;", 8, 8);
        for (int cell = 0; cell < 64; cell++) {
            x.hook(cell, 0, 99);
        }
        for (int cell = 0; cell < 55; cell++) {
            x.loops(cell, 9);
        }
        due("9: the 120th", x.rounds(10, 99, 0, 0), 120);
        due("14: listed", x.listed(), 10);
        due("15: list(9)", x.list(9), 55 * 9998);
        due("18: table", x.table(50, 0), 64);
        due("19: odds(55)", x.odds(55), 1L << 30);
        due("19: odds(56)", x.odds(56), 0);
        due("19: odds(64)", x.odds(64), 0);
        due("19: odds(65)", x.odds(65), NONE);
        due("20: sure", x.sure(1000), 55);
        due("21: draw", x.draw(50, 0, 1), 55);
        due("23: pull", x.pull(), 55);
        due("26: greatest", x.greatest(), 55 * 9998);
        due("27: hung", x.hung(55 * 9998), 55);
        due("28: peel", x.peel(true, 0x9991), 2);
        due("29: front", x.front(0, 1), 8 * 9998 * 28);
        due("30: work", x.work(), 8 * 9998 * 28 * 2);
    }

    // Promises 21 and 22
    private void drawCaught() {
        HookBoard x = board(KINDS + "catch 500 when all;", 3, 1);
        due("22: without", x.caught(0), NONE);
        due("21: no hooks", x.draw(0, 0, 0), 0);
        due("22: no hook", x.caught(0), NONE);
        for (int cell = 0; cell < 3; cell += 2) {
            x.hook(cell, 0, 0);
            x.loops(cell, 1);
        }
        for (int seed = 0; seed < 40; seed++) {
            long first = (1103515245L * seed + 12345) % 2147483648L;
            long second = (1103515245L * first + 12345) % 2147483648L;
            int a = first / 256 % 1000 < 500 ? 1 : 0;
            int b = second / 256 % 1000 < 500 ? 1 : 0;
            due("21: draw by " + seed, x.draw(0, 0, seed), a + b);
            due("22: caught(0)", x.caught(0), a);
            due("22: caught(1)", x.caught(1), NONE);
            due("22: caught(2)", x.caught(2), b);
        }
        int before = x.caught(0);
        due("21: seed -1", x.draw(0, 0, -1), NONE);
        due("21: press 100", x.draw(100, 0, 0), NONE);
        due("21: press -1", x.draw(-1, 0, 0), NONE);
        due("21: shake 100", x.draw(0, 100, 0), NONE);
        due("21: shake -1", x.draw(0, -1, 0), NONE);
        due("22: it stays", x.caught(0), before);
        due("22: caught(3)", x.caught(3), NONE);
        due("22: caught(-1)", x.caught(-1), NONE);
        long most = (1103515245L * Integer.MAX_VALUE + 12345) % 2147483648L;
        x.draw(0, 0, Integer.MAX_VALUE);
        due("21: the greatest seed", x.caught(0), most / 256 % 1000 < 500 ? 1 : 0);
        x.hook(1, 0, 0);
        due("22: as it was then", x.caught(1), NONE);
    }

    private static HookBoard pulled() {
        // stretches: 0 at 10 + 100 / 30, 1 at 300 / 20, 2 and 3 at 3 + 12, 4 (no loops) not caught
        HookBoard x = board("kind a stiff 30 opens 100 tires 0 tears 1; kind b stiff 20 opens 300 tires 0 tears 1;"
            + "kind c stiff 1 opens 12 tires 0 tears 1; catch 1000 when all;", 5, 1);
        int[][] hooks = {{0, 10}, {1, 0}, {2, 3}, {2, 3}, {0, 0}};
        for (int cell = 0; cell < 5; cell++) {
            x.hook(cell, hooks[cell][0], hooks[cell][1]);
            x.loops(cell, cell == 4 ? 0 : 1);
        }
        return x;
    }

    // Promises 23 to 25
    private void pullStepLoad() {
        HookBoard x = pulled();
        due("23: without", x.pull(), NONE);
        due("24: without", x.step(0), NONE);
        due("25: without", x.load(0, true), NONE);
        due("21: draw", x.draw(0, 0, 9), 4);
        due("24: without", x.step(0), NONE);
        due("23: pull", x.pull(), 4);
        int[] steps = {0, 1, 2, 3};
        // at 400 / 30: 100 * 30 + 20 * 400 + 2 * (400 - 90); at 15: 300 + 12 + 12 over 20, 1, 1
        long[] above = {3000 + 8000 + 620, 324 * 20, 324, 324};
        long[] below = {30, 20, 1, 1};
        for (int k = 0; k < 4; k++) {
            due("24: step(" + k + ")", x.step(k), steps[k]);
            due("25: load(" + k + ", true)", x.load(k, true), above[k]);
            due("25: load(" + k + ", false)", x.load(k, false), below[k]);
        }
        due("24: step(4)", x.step(4), NONE);
        due("24: step(-1)", x.step(-1), NONE);
        due("25: load(4, true)", x.load(4, true), NONE);
        due("25: load(-1, false)", x.load(-1, false), NONE);
        x.hook(0, 0, 99);
        x.loops(1, 0);
        due("23: the hooks as they were then", x.pull(), 4);
        due("24: step(0)", x.step(0), 0);
        x.draw(0, 0, 9);
        due("24: by the latest pull()", x.step(0), 0);
        due("26: by the latest pull()", x.greatest(), 387);
        due("27: by the latest pull()", x.hung(387), 4);
        due("23: by the latest draw()", x.pull(), 3);
        due("24: step(0)", x.step(0), 2);
        due("24: step(2)", x.step(2), 0);
        due("25: not yet stretched", x.load(0, true), 24);
    }

    // Promises 26 and 27
    private void greatestHung() {
        HookBoard x = pulled();
        due("26: without", x.greatest(), NONE);
        due("27: without", x.hung(0), NONE);
        x.draw(0, 0, 9);
        due("26: without a pull", x.greatest(), NONE);
        x.pull();
        // 11620 / 30 = 387 1/3
        due("26: greatest, floor", x.greatest(), 387);
        due("27: hung(0)", x.hung(0), 4);
        due("27: hung(324)", x.hung(324), 4);
        due("27: hung(387)", x.hung(387), 4);
        due("27: hung(388)", x.hung(388), 0);
        due("27: hung(10000000)", x.hung(10000000), 0);
        due("27: hung(10000001)", x.hung(10000001), NONE);
        due("27: hung(-1)", x.hung(-1), NONE);
        x.loops(0, 0);
        x.draw(0, 0, 9);
        x.pull();
        due("27: three that give at once", x.hung(324), 3);
        due("27: hung(325)", x.hung(325), 0);
        HookBoard y = board(SURE_CATCH, 1, 1);
        y.draw(0, 0, 0);
        due("23: no hooks", y.pull(), 0);
        due("26: no hooks", y.greatest(), 0);
        due("27: no hooks", y.hung(0), 0);
    }

    // Promises 28 to 30
    private void peelFrontWork() {
        HookBoard x = board("kind a stiff 1 opens 7 tires 0 tears 1; kind b stiff 1 opens 10 tires 0 tears 1;"
            + "kind c stiff 1 opens 100 tires 0 tears 1; catch 1000 when all;", 1, 6);
        due("28: without a draw", x.peel(true, 0x1111), NONE);
        due("30: without", x.work(), NONE);
        due("29: without", x.front(0, 0), NONE);
        // holds 7, 10, 0, 100, 7, 7
        int[] kinds = {0, 1, NONE, 2, 0, 0};
        for (int cell = 0; cell < 6; cell++) {
            x.hook(cell, kinds[cell], 0);
            x.loops(cell, 1);
        }
        x.draw(0, 0, 0);
        due("29: without a peel", x.front(0, 0), NONE);
        // 2 3 1 1: at 0 S 7, 24.5 up to 25, 25 * 3 / 7 = 10 takes row 1, row 2, 3 not below 100 ends it
        due("28: down", x.peel(true, 0x1132), 2);
        fronts(x, new int[][] {{0, 25, 2}, {3, 300, 2}});
        due("30: work", x.work(), 325);
        // back: 5 at S 7: 25, 10 takes 4, 3 holds; 3 at S 7: 350, 150 takes 2, 50 takes 1, 50 takes 0
        due("28: back", x.peel(false, 0x1132), 2);
        fronts(x, new int[][] {{5, 25, 1}, {3, 350, 3}});
        due("30: work", x.work(), 375);
        due("28: first weight alone", x.peel(true, 9), 5);
        fronts(x, new int[][] {{0, 7, 0}, {1, 10, 1}, {3, 100, 0}, {4, 7, 0}, {5, 7, 0}});
        int[] cant = {0, 0x1110, 0x111a, 0x11a1, 0x1a11, 0xa111, 0x10001, -1, Integer.MIN_VALUE + 1};
        for (int weights : cant) {
            due("28: peel by " + weights, x.peel(true, weights), NONE);
        }
        due("30: it stays", x.work(), 131);
        due("29: front(5, 0)", x.front(5, 0), NONE);
        due("29: front(-1, 0)", x.front(-1, 0), NONE);
        due("29: front(0, 3)", x.front(0, 3), NONE);
        due("29: front(0, -1)", x.front(0, -1), NONE);
        due("28: the greatest weights", x.peel(true, 0x9999), 3);
        fronts(x, new int[][] {{0, 28, 0}, {1, 40, 1}, {3, 300, 2}});
    }

    private void fronts(HookBoard x, int[][] fronts) {
        for (int k = 0; k < fronts.length; k++) {
            for (int what = 0; what < 3; what++) {
                due("29: front(" + k + ", " + what + ")", x.front(k, what), fronts[k][what]);
            }
        }
    }

    // Promises 31 to 33
    private void patchForceClear() {
        HookBoard x = new HookBoard();
        due("33: clear of none", x.clear(), 0);
        int[][] cant = {{-1, 1, 1}, {100, 1, 1}, {0, 0, 1}, {0, 1000, 1}, {0, 1, 0}, {0, 1, 1000}};
        for (int[] c : cant) {
            due("31: a patch that can't be", x.patch(c[0], c[1], c[2]), NONE);
        }
        int[][] not = {{-1, 1}, {100, 1}, {0, 0}, {0, 10000}};
        for (int[] c : not) {
            due("32: a pull that can't be", x.force(c[0], c[1]), NONE);
        }
        due("31: patch(0, 1, 1)", x.patch(0, 1, 1), 1);
        for (int n = 2; n <= 12; n++) {
            due("31: patch", x.patch(99, 999, 999), n);
        }
        due("31: a 13th", x.patch(0, 1, 1), NONE);
        due("32: force(0, 1)", x.force(0, 1), 1);
        for (int n = 2; n <= 8; n++) {
            due("32: force", x.force(99, 9999), n);
        }
        due("32: a 9th", x.force(0, 1), NONE);
        due("33: clear", x.clear(), 12);
        due("33: all(5)", x.all(5), 0);
        due("33: all(6)", x.all(6), 0);
        due("31: behind it", x.patch(0, 1, 1), 1);
        due("32: behind it", x.force(0, 1), 1);
    }

    // Promises 34 and 35
    private void choose() {
        HookBoard x = new HookBoard();
        due("35: without", x.chosen(0), NONE);
        due("34: no pulls, no patches", x.choose(0, 0), 0);
        due("35: none then", x.chosen(0), NONE);
        x.patch(10, 5, 4);
        due("34: no pulls", x.choose(0, 0), 0);
        due("35: not chosen", x.chosen(0), 0);
        x.patch(20, 5, 4);
        x.patch(30, 5, 4);
        x.patch(20, 9, 8);
        due("35: not there then", x.chosen(1), NONE);
        x.force(20, 5);
        due("34: one alone may be lost", x.choose(0, 20000), 12);
        chosen(x, 0, 1, 0, 1);
        due("34: the first of like ones", x.choose(10, 20000), 8);
        chosen(x, 1, 1, 0, 0);
        due("34: just off", x.choose(9, 20000), 12);
        due("34: all bear not more than open", x.choose(10, 10), 8);
        due("34: open 9", x.choose(10, 9), NONE);
        due("34: reach -1", x.choose(-1, 5), NONE);
        due("34: reach 100", x.choose(100, 5), NONE);
        due("34: open -1", x.choose(0, -1), NONE);
        due("34: open 20001", x.choose(0, 20001), NONE);
        chosen(x, 1, 1, 0, 0);
        due("35: chosen(4)", x.chosen(4), NONE);
        due("35: chosen(-1)", x.chosen(-1), NONE);
        x.clear();
        chosen(x, 1, 1, 0, 0);
        fewest(x);
    }

    /** Costs are alike: two of 4 and 2, or three of 2; then {0, 3} comes ahead of {1, 2}. */
    private void fewest(HookBoard x) {
        x.patch(0, 2, 2);
        x.patch(0, 2, 2);
        x.patch(0, 2, 2);
        x.patch(0, 4, 4);
        x.patch(0, 4, 2);
        x.force(0, 4);
        due("34: fewest", x.choose(0, 20000), 6);
        chosen(x, 0, 0, 0, 1, 1);
        x.clear();
        x.patch(5, 2, 3);
        x.patch(5, 3, 2);
        x.patch(5, 3, 2);
        x.patch(5, 2, 1);
        x.force(5, 2);
        x.force(4, 2);
        due("34: the cheapest", x.choose(1, 20000), 3);
        chosen(x, 0, 1, 0, 1);
        due("34: one of the pulls is out of reach", x.choose(0, 20000), NONE);
    }

    private void chosen(HookBoard x, int... flags) {
        for (int k = 0; k < flags.length; k++) {
            due("35: chosen(" + k + ")", x.chosen(k), flags[k]);
        }
    }

    // Promise 36
    private void found() {
        HookBoard x = new HookBoard();
        due("36: 2 of 4 with 2 bad, 1 or more", x.found(4, 2, 2, 1, true), 5);
        due("36: below", x.found(4, 2, 2, 1, false), 6);
        due("36: k 0", x.found(4, 2, 2, 0, true), 6);
        due("36: more than are bad", x.found(4, 1, 3, 2, true), 0);
        due("36: none tested", x.found(4, 1, 0, 0, true), 1);
        due("36: none tested, below", x.found(4, 1, 0, 0, false), 1);
        due("36: all tested", x.found(4, 3, 4, 3, true), 1);
        due("36: all tested", x.found(4, 3, 4, 4, true), 0);
        due("36: the greatest", x.found(50, 50, 25, 25, true), 126410606437752L);
        due("36: the greatest", x.found(50, 25, 25, 0, true), 126410606437752L);
        due("36: half", x.found(50, 25, 25, 13, true), 63205303218876L);
        int[][] cant = {{0, 0, 0, 0}, {51, 0, 0, 0}, {5, -1, 0, 0}, {5, 6, 0, 0}, {5, 1, -1, 0}, {5, 1, 6, 0},
            {5, 1, 2, -1}, {5, 1, 2, 3}, {-1, 0, 0, 0}};
        for (int[] c : cant) {
            due("36: above, what can't be", x.found(c[0], c[1], c[2], c[3], true), NONE);
            due("36: below, what can't be", x.found(c[0], c[1], c[2], c[3], false), NONE);
        }
    }

    // Promise 37
    private void tests() {
        HookBoard x = new HookBoard();
        due("37: 1 of 50, 500", x.tests(50, 1, 500), 25);
        due("37: 1 of 50, 501", x.tests(50, 1, 501), 26);
        due("37: 1 of 50, 1000", x.tests(50, 1, 1000), 50);
        due("37: 3 of 5, 1000", x.tests(5, 3, 1000), 3);
        due("37: all bad", x.tests(50, 50, 1000), 1);
        due("37: none bad", x.tests(50, 0, 1), NONE);
        due("37: 1 of 1", x.tests(1, 1, 1), 1);
        int[][] cant = {{0, 0, 1}, {51, 1, 1}, {5, -1, 1}, {5, 6, 1}, {5, 1, 0}, {5, 1, 1001}};
        for (int[] c : cant) {
            due("37: what can't be", x.tests(c[0], c[1], c[2]), NONE);
        }
    }

    // Promise 38
    private void all() {
        HookBoard x = board(SURE_CATCH, 3, 2);
        x.hook(0, 0, 0);
        x.hook(5, 1, 0);
        x.hook(5, 0, 0);
        x.as(1);
        x.patch(0, 1, 1);
        x.patch(0, 1, 1);
        x.force(0, 1);
        int[] due = {6, 2, 3, 1, 1, 2, 1};
        for (int what = 0; what < due.length; what++) {
            due("38: all(" + what + ")", x.all(what), due[what]);
        }
        x.as(NONE);
        due("38: all(3)", x.all(3), 3);
        due("38: all(4)", x.all(4), 2);
        due("38: all(7)", x.all(7), NONE);
        due("38: all(-1)", x.all(-1), NONE);
    }
}
