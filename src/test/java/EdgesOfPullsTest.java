/** CHANCES, DRAWS, PULLS, PEELS and promises 18 to 30: each sentence that names a boundary case has a test of its own. */
public final class EdgesOfPullsTest {
    private static final int NONE = HookBoard.NONE;
    private static final int LEAST = Integer.MIN_VALUE;
    private static final int MOST = Integer.MAX_VALUE;
    private static final long ONE = 1L << 30;
    private static final String PLAIN = "kind a stiff 1 opens 1 tires 0 tears 2;";
    private static final String ALWAYS = "catch 1000 when all;";

    private final Check check = new Check();

    public static void main(String[] args) {
        EdgesOfPullsTest test = new EdgesOfPullsTest();
        test.tableThatCanBe();
        test.tableOfNoHooks();
        test.tableByFloors();
        test.tableOf64();
        test.oddsThatThereAre();
        test.sureNotBelow();
        test.sureThatCanBe();
        test.sureWithoutOne();
        test.drawBelowChance();
        test.drawThatCanBe();
        test.drawWraps();
        test.caughtWhereThereWas();
        test.pullWithout();
        test.stepsOfLikeStretches();
        test.stepsByFractions();
        test.loadOfAStep();
        test.loadOfTheGreatest();
        test.stepsThatThereAre();
        test.greatestByFloor();
        test.hungNotBelow();
        test.hungThatCanBe();
        test.hungDoesNotWrap();
        test.pullOfTheLatestDraw();
        test.peelThatCanBe();
        test.peelWithout();
        test.forceRoundedUp();
        test.goneRoundedDown();
        test.weightsOfRowsThatThereAre();
        test.threeRowsAtMost();
        test.oneBehindTheOther();
        test.greatestForces();
        test.frontsThatThereAre();
        test.peelOfTheLatestDraw();
        test.check.finish();
    }

    private void due(String call, long got, long want) {
        check.due(call, got, want);
    }

    /** A BOARD whose KINDS are rows of stiff and opens, each in a CELL of its own with a slack and one LOOP. */
    private static HookBoard hooks(int wide, int high, int[]... hooks) {
        StringBuilder text = new StringBuilder();
        for (int i = 0; i < hooks.length; i++) {
            text.append("kind ").append((char) ('a' + i)).append(" stiff ").append(hooks[i][0]).append(" opens ")
                .append(hooks[i][1]).append(" tires 0 tears 1;");
        }
        HookBoard x = Check.board(text + ALWAYS, wide, high);
        for (int i = 0; i < hooks.length; i++) {
            x.hook(i, i, hooks[i][2]);
            x.loops(i, 1);
        }
        return x;
    }

    private static HookBoard pulled(int[]... hooks) {
        HookBoard x = hooks(8, 1, hooks);
        x.draw(0, 0, 0);
        x.pull();
        return x;
    }

    /** HOOKS of one KIND, so many of them CAUGHT for sure. */
    private static HookBoard many(String text, int wide, int high, int hooks) {
        HookBoard x = Check.board(text, wide, high);
        for (int cell = 0; cell < hooks; cell++) {
            x.hook(cell, 0, 0);
        }
        for (int cell = 0; cell < Math.min(hooks, 120 - hooks); cell++) {
            x.loops(cell, 1);
        }
        return x;
    }

    // Promise 18: "NONE when a number can't be"
    private void tableThatCanBe() {
        HookBoard x = many(PLAIN + "catch press * 10 + shake / 10 when all;", 1, 1, 1);
        for (int press : new int[] {LEAST, -1, 0, 1, 99, 100, MOST}) {
            for (int shake : new int[] {LEAST, -1, 0, 10, 99, 100, MOST}) {
                boolean can = press >= 0 && press <= 99 && shake >= 0 && shake <= 99;
                due("18: table(" + press + ", " + shake + ")", x.table(press, shake), can ? 1 : NONE);
                if (can) {
                    due("19: odds(1)", x.odds(1), ONE * (press * 10 + shake / 10) / 1000);
                }
            }
        }
        due("19: by the latest that was not NONE", x.odds(1), ONE * 999 / 1000);
    }

    // II: "2 to the 30 for 0, of no HOOKS"
    private void tableOfNoHooks() {
        HookBoard x = Check.board(PLAIN + ALWAYS, 8, 8);
        x.loops(0, 9);
        due("18: no HOOKS", x.table(99, 99), 0);
        due("19: odds(0)", x.odds(0), ONE);
        due("19: odds(1)", x.odds(1), NONE);
        due("20: sure(1)", x.sure(1), 0);
        due("20: sure(1000)", x.sure(1000), 0);
    }

    // II: "floor of it times (1000 less CHANCE) / 1000, and floor of that of j - 1 times CHANCE / 1000, together"
    private void tableByFloors() {
        for (int chance : new int[] {0, 1, 333, 500, 999, 1000}) {
            HookBoard x = many(PLAIN + "catch " + chance + " when all;", 3, 1, 3);
            long[] row = {ONE, 0, 0, 0};
            for (int hook = 0; hook < 3; hook++) {
                long[] next = new long[4];
                for (int j = 0; j < 4; j++) {
                    next[j] = row[j] * (1000 - chance) / 1000 + (j > 0 ? row[j - 1] * chance / 1000 : 0);
                }
                row = next;
            }
            due("18: table", x.table(0, 0), 3);
            due("19: odds(3) of " + chance, x.odds(3), row[3]);
            due("19: odds(2) of " + chance, x.odds(2), row[3] + row[2]);
            due("19: odds(1) of " + chance, x.odds(1), row[3] + row[2] + row[1]);
            due("19: odds(0) of " + chance, x.odds(0), row[3] + row[2] + row[1] + row[0]);
        }
    }

    // A full BOARD: 64 HOOKS, 56 with LOOPS
    private void tableOf64() {
        HookBoard x = many(PLAIN + ALWAYS, 8, 8, 64);
        due("18: table", x.table(0, 0), 64);
        due("19: odds(0)", x.odds(0), ONE);
        due("19: odds(56)", x.odds(56), ONE);
        due("19: odds(57)", x.odds(57), 0);
        due("19: odds(64)", x.odds(64), 0);
        due("19: odds(65)", x.odds(65), NONE);
        due("20: sure(1000)", x.sure(1000), 56);
        due("20: sure(1)", x.sure(1), 56);
        due("21: draw", x.draw(0, 0, 0), 56);
        due("22: caught(55)", x.caught(55), 1);
        due("22: caught(56)", x.caught(56), 0);
        due("22: caught(63)", x.caught(63), 0);
        due("23: pull", x.pull(), 56);
        due("24: step(55)", x.step(55), 55);
        due("24: step(56)", x.step(56), NONE);
        due("26: greatest", x.greatest(), 56);
    }

    // Promise 19: "NONE when there is none such (k 0 .. that many)"
    private void oddsThatThereAre() {
        HookBoard x = many(PLAIN + ALWAYS, 3, 1, 2);
        for (int k : new int[] {LEAST, -1, 0, 1, 2, 3, MOST}) {
            due("19: without a table: odds(" + k + ")", x.odds(k), NONE);
        }
        x.table(0, 0);
        for (int k : new int[] {LEAST, -1, 3, 64, 65, MOST}) {
            due("19: odds(" + k + ")", x.odds(k), NONE);
        }
        for (int k = 0; k <= 2; k++) {
            due("19: odds(" + k + ")", x.odds(k), ONE);
        }
        x.hook(2, 0, 0);
        x.loops(0, 0);
        due("19: as it was made", x.odds(2), ONE);
        due("19: as it was made", x.odds(3), NONE);
        due("18: made anew", x.table(0, 0), 3);
        due("19: odds(1)", x.odds(1), ONE);
        due("19: odds(2)", x.odds(2), 0);
        due("19: odds(3)", x.odds(3), 0);
    }

    // II: "the greatest k of which ODDS are not below floor(2 to the 30 times p / 1000)"
    private void sureNotBelow() {
        for (int chance = 1; chance <= 999; chance += 1 + chance / 10) {
            HookBoard x = many(PLAIN + "catch " + chance + " when all;", 1, 1, 1);
            x.table(0, 0);
            due("20: just not below, " + chance, x.sure(chance), 1);
            due("20: below, " + chance, x.sure(chance + 1), 0);
        }
        HookBoard x = many(PLAIN + ALWAYS, 2, 1, 2);
        x.table(0, 0);
        due("20: two for sure", x.sure(1000), 2);
        // two by halves: 1/4, 1/2, 1/4 without a rest
        HookBoard y = many(PLAIN + "catch 500 when all;", 2, 1, 2);
        y.table(0, 0);
        int[][] due = {{1, 2}, {250, 2}, {251, 1}, {750, 1}, {751, 0}, {1000, 0}};
        for (int[] d : due) {
            due("20: sure(" + d[0] + ")", y.sure(d[0]), d[1]);
        }
        for (int chance = 100; chance < 1000; chance += 100) {
            HookBoard z = many(PLAIN + "catch " + chance + " when all;", 2, 1, 2);
            z.table(0, 0);
            int share = chance * chance / 1000;
            long both = ONE * chance / 1000 * chance / 1000;
            due("20: two, or just too few by floors", z.sure(share), both >= ONE * share / 1000 ? 2 : 1);
        }
    }

    // Promise 20: "NONE without one, or when a number can't be"; II: "a share p (1 .. 1000)"
    private void sureThatCanBe() {
        HookBoard x = many(PLAIN + ALWAYS, 1, 1, 1);
        for (int p : new int[] {0, 1, 1000, 1001}) {
            due("20: without one, sure(" + p + ")", x.sure(p), NONE);
        }
        x.table(0, 0);
        due("20: sure(1)", x.sure(1), 1);
        due("20: sure(1000)", x.sure(1000), 1);
        for (int p : new int[] {LEAST, -1, 0, 1001, 1002, MOST}) {
            due("20: sure(" + p + ")", x.sure(p), NONE);
        }
    }

    // II: "(0 if there is none)": by floors even ODDS of 0 are below the whole
    private void sureWithoutOne() {
        HookBoard x = many(PLAIN + "catch 333 when all;", 3, 1, 3);
        x.table(0, 0);
        due("19: less than the whole", x.odds(0) < ONE ? 1 : 0, 1);
        due("20: none", x.sure(1000), 0);
        HookBoard y = many(PLAIN + "catch 0 when all;", 3, 1, 3);
        y.table(0, 0);
        due("20: none CAUGHT", y.sure(1), 0);
        due("20: none CAUGHT", y.sure(1000), 0);
    }

    private static long next(long seed) {
        return (1103515245L * seed + 12345) % 2147483648L;
    }

    // II: "it is CAUGHT, if floor(x / 256) mod 1000 is below its CHANCE"
    private void drawBelowChance() {
        for (int seed : new int[] {0, 1, 2, 77, 4711, 1 << 20, 1 << 30, MOST - 1, MOST}) {
            int value = (int) (next(seed) / 256 % 1000);
            HookBoard x = many(PLAIN + "catch " + value + " when all;", 1, 1, 1);
            due("21: just not below, " + seed, x.draw(0, 0, seed), 0);
            due("22: just not below, " + seed, x.caught(0), 0);
            HookBoard y = many(PLAIN + "catch " + value + " + 1 when all;", 1, 1, 1);
            due("21: below, " + seed, y.draw(0, 0, seed), 1);
            due("22: below, " + seed, y.caught(0), 1);
        }
        HookBoard never = many(PLAIN + "catch 0 when all;", 8, 1, 8);
        HookBoard always = many(PLAIN + ALWAYS, 8, 1, 8);
        for (int seed = 0; seed < 400; seed++) {
            due("21: CHANCE 0", never.draw(0, 0, seed), 0);
            due("21: CHANCE 1000", always.draw(0, 0, seed), 8);
        }
    }

    // Promise 21: "NONE when a number can't be"; II: "a seed x (0 .. 2147483647)"
    private void drawThatCanBe() {
        HookBoard x = many(PLAIN + ALWAYS, 1, 1, 1);
        for (int press : new int[] {LEAST, -1, 0, 99, 100, MOST}) {
            for (int shake : new int[] {LEAST, -1, 0, 99, 100, MOST}) {
                for (int seed : new int[] {LEAST, -1, 0, 1, MOST}) {
                    boolean can = press >= 0 && press <= 99 && shake >= 0 && shake <= 99 && seed >= 0;
                    due("21: draw(" + press + ", " + shake + ", " + seed + ")", x.draw(press, shake, seed), can ? 1 : NONE);
                }
            }
        }
    }

    // II: "HOOK by HOOK x becomes (1103515245 x + 12345) mod 2 to the 31": also for a HOOK whose CELL has no LOOPS
    private void drawWraps() {
        for (int start : new int[] {0, 1, 1 << 16, 1 << 30, MOST - 1, MOST}) {
            HookBoard x = Check.board(PLAIN + "catch 500 when all;", 8, 4);
            for (int cell = 0; cell < 32; cell += 2) {
                x.hook(cell, 0, 0);
                x.loops(cell, cell % 6 == 0 ? 0 : 9);
            }
            int count = 0;
            long seed = start;
            boolean[] caught = new boolean[32];
            for (int cell = 0; cell < 32; cell += 2) {
                seed = next(seed);
                caught[cell] = seed / 256 % 1000 < 500 && cell % 6 != 0;
                count += caught[cell] ? 1 : 0;
            }
            due("21: draw by " + start, x.draw(0, 0, start), count);
            for (int cell = 0; cell < 32; cell++) {
                due("22: caught(" + cell + ") by " + start, x.caught(cell), cell % 2 == 1 ? NONE : caught[cell] ? 1 : 0);
            }
        }
    }

    // Promise 22: "in the latest draw() that was not NONE: 1, 0; NONE when there was none there"
    private void caughtWhereThereWas() {
        HookBoard x = Check.board(PLAIN + "catch 1000 when column = 0;", 2, 2);
        due("22: without a draw", x.caught(0), NONE);
        x.hook(0, 0, 0);
        x.hook(1, 0, 0);
        x.loops(0, 1);
        x.loops(1, 1);
        x.loops(2, 1);
        due("22: without a draw", x.caught(0), NONE);
        due("21: draw", x.draw(0, 0, 0), 1);
        int[] due = {1, 0, NONE, NONE};
        for (int times = 0; times < 2; times++) {
            for (int cell = 0; cell < 4; cell++) {
                due("22: caught(" + cell + ")", x.caught(cell), due[cell]);
            }
            for (int cell : new int[] {LEAST, -1, 4, 63, 64, MOST}) {
                due("22: caught(" + cell + ")", x.caught(cell), NONE);
            }
            x.hook(2, 0, 0);
            x.annul(1);
            due("21: refused", x.draw(100, 0, 0), NONE);
        }
        due("21: another draw", x.draw(0, 0, 0), 1);
        due("22: no HOOK any more", x.caught(0), NONE);
        due("22: a HOOK now", x.caught(2), 1);
    }

    // Promise 23: "NONE without a draw()"; 24 to 27 without a pull()
    private void pullWithout() {
        HookBoard x = many(PLAIN + ALWAYS, 1, 1, 1);
        for (int times = 0; times < 2; times++) {
            due("24: without a pull", x.step(0), NONE);
            due("25: without a pull", x.load(0, true), NONE);
            due("25: without a pull", x.load(0, false), NONE);
            due("26: without a pull", x.greatest(), NONE);
            due("27: without a pull", x.hung(0), NONE);
            if (times == 0) {
                due("23: without a draw", x.pull(), NONE);
                due("26: none was made", x.greatest(), NONE);
            }
            x.draw(0, 0, 0);
        }
        due("23: pull", x.pull(), 1);
        HookBoard y = many(PLAIN + "catch 0 when all;", 1, 1, 1);
        y.draw(0, 0, 0);
        due("23: nothing CAUGHT", y.pull(), 0);
        due("24: no STEP", y.step(0), NONE);
        due("25: no STEP", y.load(0, true), NONE);
        due("25: no STEP", y.load(0, false), NONE);
        due("26: 0 without", y.greatest(), 0);
        due("27: none", y.hung(0), 0);
        due("27: none", y.hung(1), 0);
    }

    private void steps(HookBoard x, int... cells) {
        for (int k = 0; k < cells.length; k++) {
            due("24: step(" + k + ")", x.step(k), cells[k]);
        }
        due("24: none behind", x.step(cells.length), NONE);
    }

    // III: "of like STRETCHES by CELLS"
    private void stepsOfLikeStretches() {
        steps(pulled(new int[] {1, 3, 0}, new int[] {2, 6, 0}, new int[] {3, 9, 0}, new int[] {5, 10, 1}, new int[] {7, 7, 2}),
            0, 1, 2, 3, 4);
        steps(pulled(new int[] {7, 7, 2}, new int[] {5, 10, 1}, new int[] {3, 9, 0}, new int[] {2, 6, 0}, new int[] {1, 3, 0}),
            0, 1, 2, 3, 4);
        steps(pulled(new int[] {3, 10, 0}, new int[] {6, 14, 1}, new int[] {9, 30, 0}, new int[] {999, 3330, 0}, new int[] {1, 3, 0}),
            4, 0, 1, 2, 3);
        steps(pulled(new int[] {999, 999, 98}, new int[] {1, 99, 0}, new int[] {1, 98, 1}), 0, 1, 2);
    }

    // III: "HOOKS in the order in which they give": also where only the fractions tell
    private void stepsByFractions() {
        steps(pulled(new int[] {2, 7, 0}, new int[] {3, 10, 0}), 1, 0);
        steps(pulled(new int[] {999, 9999, 99}, new int[] {998, 9988, 99}), 1, 0);
        steps(pulled(new int[] {998, 9988, 99}, new int[] {999, 9999, 99}), 0, 1);
        steps(pulled(new int[] {1, 9999, 99}, new int[] {1, 9999, 98}, new int[] {1, 9998, 99}), 1, 2, 0);
        steps(pulled(new int[] {1, 1, 1}, new int[] {999, 1, 1}, new int[] {999, 1, 0}), 2, 1, 0);
    }

    private void loads(HookBoard x, long[]... due) {
        for (int k = 0; k < due.length; k++) {
            due("25: load(" + k + ", true)", x.load(k, true), due[k][0]);
            due("25: load(" + k + ", false)", x.load(k, false), due[k][1]);
        }
    }

    // III: "THE LOAD at a STRETCH is what all bear that have not given at a lesser one"; "(STRETCH less SLACK), 0 at least";
    // "a fraction over the STIFFNESS of the HOOK that gives"
    private void loadOfAStep() {
        // one alone: what it opens at, over its STIFFNESS, not reduced
        loads(pulled(new int[] {4, 8, 3}), new long[] {32, 4});
        loads(pulled(new int[] {1, 1, 99}), new long[] {1, 1});
        // like STRETCHES: each still bears at that of the other
        loads(pulled(new int[] {2, 6, 0}, new int[] {3, 9, 0}), new long[] {30, 2}, new long[] {45, 3});
        // the second has not begun to bear, or just begins
        loads(pulled(new int[] {2, 6, 0}, new int[] {5, 7, 4}), new long[] {12, 2}, new long[] {35, 5});
        loads(pulled(new int[] {2, 6, 0}, new int[] {5, 7, 3}), new long[] {12, 2}, new long[] {35, 5});
        loads(pulled(new int[] {2, 6, 0}, new int[] {5, 7, 2}), new long[] {22, 2}, new long[] {35, 5});
        // at 7 / 2 the other one bears 3 * 7 / 2
        loads(pulled(new int[] {2, 7, 0}, new int[] {3, 30, 0}), new long[] {14 + 21, 2}, new long[] {90, 3});
        // those told last give first, each with a SLACK of its own: at 7, 10, 25
        loads(pulled(new int[] {1, 20, 5}, new int[] {2, 12, 4}, new int[] {1, 4, 3}), new long[] {4 + 6 + 2, 1},
            new long[] {24 + 10, 2}, new long[] {20, 1});
        // STIFFNESS, not stiff, stands below
        HookBoard x = many("kind a stiff 10 opens 6 tires 0 tears 9;" + ALWAYS, 1, 1, 1);
        for (int n = 0; n < 40; n++) {
            x.wash();
        }
        x.draw(0, 0, 0);
        x.pull();
        loads(x, new long[] {36, 6});
    }

    // The greatest numbers that can be
    private void loadOfTheGreatest() {
        HookBoard x = Check.board("kind a stiff 999 opens 9999 tires 0 tears 9999;" + ALWAYS, 8, 8);
        for (int cell = 0; cell < 60; cell++) {
            x.hook(cell, 0, 99);
            x.loops(cell, 9);
        }
        x.draw(99, 99, MOST);
        due("23: pull", x.pull(), 60);
        due("25: load(0, true)", x.load(0, true), 60L * 9999 * 999);
        due("25: load(59, true)", x.load(59, true), 60L * 9999 * 999);
        due("25: load(59, false)", x.load(59, false), 999);
        due("26: greatest", x.greatest(), 60 * 9999);
        due("27: hung(599940)", x.hung(60 * 9999), 60);
        due("27: hung(599941)", x.hung(60 * 9999 + 1), 0);
    }

    // Promises 24, 25: "NONE when there is none such", "NONE likewise"
    private void stepsThatThereAre() {
        HookBoard x = pulled(new int[] {1, 5, 0}, new int[] {1, 4, 0}, new int[] {1, 3, 0});
        steps(x, 2, 1, 0);
        for (int k : new int[] {LEAST, -2, -1, 3, 4, 63, 64, MOST}) {
            due("24: step(" + k + ")", x.step(k), NONE);
            due("25: load(" + k + ", true)", x.load(k, true), NONE);
            due("25: load(" + k + ", false)", x.load(k, false), NONE);
        }
    }

    // III: "THE GREATEST is the greatest LOAD of a STEP (0 without), floor"
    private void greatestByFloor() {
        // at 7 / 3: 7 and 2 times 7 / 3 are 35 / 3, at 10: 20
        due("26: of the last STEP", pulled(new int[] {3, 7, 0}, new int[] {2, 20, 0}).greatest(), 20);
        // at 7 / 3: 7 and 2 * 7 / 3, 11 2/3; at 3: 6
        due("26: of the first STEP, floor", pulled(new int[] {3, 7, 0}, new int[] {2, 6, 0}).greatest(), 11);
        due("26: of like STRETCHES", pulled(new int[] {3, 9, 0}, new int[] {2, 6, 0}).greatest(), 15);
        due("26: of the one between", pulled(new int[] {1, 1, 0}, new int[] {5, 50, 0}, new int[] {1, 30, 0}).greatest(), 60);
        due("26: of one", pulled(new int[] {999, 1, 99}).greatest(), 1);
    }

    private void hung(HookBoard x, int... weightsAndDue) {
        for (int i = 0; i < weightsAndDue.length; i += 2) {
            due("27: hung(" + weightsAndDue[i] + ")", x.hung(weightsAndDue[i]), weightsAndDue[i + 1]);
        }
    }

    // III: "at the least STRETCH at which the LOAD is not below WEIGHT, those that give just there still counted; none, if
    // there is no such STRETCH"
    private void hungNotBelow() {
        // 11 2/3 at 7 / 3, then 6 at 3
        hung(pulled(new int[] {3, 7, 0}, new int[] {2, 6, 0}), 0, 2, 1, 2, 6, 2, 7, 2, 11, 2, 12, 0, 13, 0);
        // 35 / 3 at 7 / 3, then 20 at 10
        hung(pulled(new int[] {3, 7, 0}, new int[] {2, 20, 0}), 0, 2, 11, 2, 12, 1, 20, 1, 21, 0);
        // 3 of them give at once at 3 with 6 + 9 + 3, then one at 5 with 5
        hung(pulled(new int[] {2, 6, 0}, new int[] {3, 9, 0}, new int[] {1, 5, 0}, new int[] {6, 3, 0}), 0, 4, 6, 4, 7, 3, 18,
            3, 19, 0);
        // just 6 at 1, then 5, 10 at 2
        hung(pulled(new int[] {1, 1, 0}, new int[] {5, 10, 0}), 6, 2, 7, 1, 10, 1, 11, 0);
        hung(pulled(new int[] {1, 9999, 99}), 9999, 1, 10000, 0, 10000000, 0);
    }

    // Promise 27: "NONE without one, or when it can't be"; III: "a WEIGHT (0 .. 10000000)"
    private void hungThatCanBe() {
        HookBoard x = pulled(new int[] {1, 5, 0});
        hung(x, LEAST, NONE, -2, NONE, -1, NONE, 0, 1, 5, 1, 6, 0, 9999999, 0, 10000000, 0, 10000001, NONE, MOST, NONE);
    }

    // A WEIGHT times a STIFFNESS is beyond an int
    private void hungDoesNotWrap() {
        HookBoard x = pulled(new int[] {999, 9999, 0}, new int[] {999, 9999, 0});
        // times 999 these are just above 2 to the 31 and 2 to the 32
        hung(x, 19998, 2, 19999, 0, 2149634, 0, 4299267, 0, 4299268, 0, 8598533, 0);
    }

    // "by the latest draw() that was not NONE, and the HOOKS as they were then"
    private void pullOfTheLatestDraw() {
        HookBoard x = hooks(3, 1, new int[] {1, 9, 0}, new int[] {1, 5, 0}, new int[] {1, 7, 0});
        x.draw(0, 0, 0);
        x.hook(0, 1, 3);
        x.loops(1, 0);
        x.wash();
        x.annul(3);
        x.as(0);
        due("23: the HOOKS as they were then", x.pull(), 3);
        steps(x, 1, 2, 0);
        due("25: as they were then", x.load(0, true), 15);
        due("21: none as known at 0", x.draw(0, 0, 0), 0);
        steps(x, 1, 2, 0);
        due("26: of the latest pull()", x.greatest(), 15);
        due("27: of the latest pull()", x.hung(15), 3);
        due("23: by the latest draw()", x.pull(), 0);
        due("26: 0 without STEPS", x.greatest(), 0);
        x.as(NONE);
        due("21: refused", x.draw(0, 0, -1), NONE);
        due("23: by the one that was not NONE", x.pull(), 0);
        due("21: as known now", x.draw(0, 0, 0), 2);
        due("23: pull", x.pull(), 2);
        steps(x, 2, 0);
    }

    /** HOOKS whose opens are the HOLDS of the rows; 0 has none. */
    private static HookBoard rows(int... holds) {
        StringBuilder text = new StringBuilder();
        for (int row = 0; row < holds.length; row++) {
            text.append("kind ").append((char) ('a' + row)).append(" stiff 1 opens ").append(Math.max(1, holds[row]))
                .append(" tires 0 tears 1;");
        }
        HookBoard x = Check.board(text + ALWAYS, 1, holds.length);
        for (int row = 0; row < holds.length; row++) {
            x.loops(row, 1);
            if (holds[row] > 0) {
                x.hook(row, row, 0);
            }
        }
        x.draw(0, 0, 0);
        return x;
    }

    // Promise 28: "four WEIGHTS (the front one's the lowest of four bits)"; III: "WEIGHTS 1 .. 9 .. (the first from 1, the
    // others from 0 on)"; "NONE .. when one can't be"
    private void peelThatCanBe() {
        for (int place = 0; place < 4; place++) {
            HookBoard x = rows(5);
            for (int weight = 0; weight < 16; weight++) {
                int weights = 0x1111 & ~(15 << 4 * place) | weight << 4 * place;
                boolean can = weight <= 9 && (weight > 0 || place > 0);
                due("28: peel by " + Integer.toHexString(weights), x.peel(true, weights), can ? 1 : NONE);
                due("28: back by " + Integer.toHexString(weights), x.peel(false, weights), can ? 1 : NONE);
            }
        }
        HookBoard x = rows(5);
        due("28: the least", x.peel(true, 1), 1);
        due("28: the greatest", x.peel(true, 0x9999), 1);
        int[] cant = {0, 0x1110, 0x10001, 0x11111, 0x80001111, 0xf0001111, 1 << 16 | 1, 1 << 20 | 1, 1 << 28 | 1, 1 << 31 | 1,
            LEAST, -1, MOST, 0xa, 0xa1, 0xa01, 0xa001, 0x999a};
        for (int weights : cant) {
            due("28: peel by " + Integer.toHexString(weights), x.peel(true, weights), NONE);
            due("28: back by " + Integer.toHexString(weights), x.peel(false, weights), NONE);
        }
    }

    // Promises 28 to 30: "NONE without a draw()", "NONE without one"
    private void peelWithout() {
        HookBoard x = many(PLAIN + ALWAYS, 1, 1, 1);
        due("28: without a draw", x.peel(true, 0x1111), NONE);
        due("29: without a peel", x.front(0, 0), NONE);
        due("30: without a peel", x.work(), NONE);
        x.draw(0, 0, 0);
        x.pull();
        due("29: without a peel", x.front(0, 0), NONE);
        due("30: without a peel", x.work(), NONE);
        due("28: that can't be", x.peel(true, 0), NONE);
        due("29: still without", x.front(0, 0), NONE);
        due("30: still without", x.work(), NONE);
        due("28: peel", x.peel(true, 1), 1);
        due("30: work", x.work(), 1);
    }

    private void fronts(HookBoard x, boolean down, int weights, int[]... fronts) {
        String call = "28: peel(" + down + ", " + Integer.toHexString(weights) + ")";
        due(call, x.peel(down, weights), fronts.length);
        long work = 0;
        for (int k = 0; k < fronts.length; k++) {
            for (int what = 0; what < 3; what++) {
                due(call + " front(" + k + ", " + what + ")", x.front(k, what), fronts[k][what]);
            }
            work += fronts[k][1];
        }
        due(call + " work", x.work(), work);
    }

    // III: "its FORCE is HOLD times S / the first WEIGHT, rounded up"
    private void forceRoundedUp() {
        // S 5: 6 * 5 / 3 is 10, 7 * 5 / 3 is 11 2/3, 8 * 5 / 3 is 13 1/3; row 1 holds it all
        for (int hold = 0; hold <= 9; hold++) {
            int[] force = {0, 2, 4, 5, 7, 9, 10, 12, 14, 15};
            fronts(rows(hold, 9999), true, 0x23, new int[] {0, force[hold], 0}, new int[] {1, 9999, 0});
        }
        fronts(rows(7), true, 0x9999, new int[] {0, 7, 0});
        fronts(rows(1, 9999), true, 0x19, new int[] {0, 2, 0}, new int[] {1, 9999, 0});
    }

    // III: "as long as FORCE times its WEIGHT / S, rounded down, is not below its HOLD"
    private void goneRoundedDown() {
        // S 5: FORCE 12 of 7; 12 * 2 / 5 is 4 4/5
        fronts(rows(7, 4), true, 0x23, new int[] {0, 12, 1});
        fronts(rows(7, 5), true, 0x23, new int[] {0, 12, 0}, new int[] {1, 5, 0});
        // FORCE 10 of 6; 10 * 2 / 5 is 4
        fronts(rows(6, 4), true, 0x23, new int[] {0, 10, 1});
        fronts(rows(6, 5), true, 0x23, new int[] {0, 10, 0}, new int[] {1, 5, 0});
        // a WEIGHT of 0 takes only what holds nothing
        fronts(rows(6, 0), true, 0x3, new int[] {0, 6, 1});
        fronts(rows(6, 1), true, 0x3, new int[] {0, 6, 0}, new int[] {1, 1, 0});
        // nothing takes nothing
        fronts(rows(0, 0), true, 0x11, new int[] {0, 0, 1});
        fronts(rows(0, 1), true, 0x91, new int[] {0, 0, 0}, new int[] {1, 1, 0});
        fronts(rows(7, 4), false, 0x23, new int[] {1, 7, 0}, new int[] {0, 7, 0});
        fronts(rows(4, 7), false, 0x23, new int[] {1, 12, 1});
    }

    // III: "S is the WEIGHTS of it and of those rows behind it that there are"
    private void weightsOfRowsThatThereAre() {
        fronts(rows(10), true, 0x4321, new int[] {0, 10, 0});
        fronts(rows(10, 9999), true, 0x4321, new int[] {0, 30, 0}, new int[] {1, 9999, 0});
        fronts(rows(10, 9999, 9999), true, 0x4321, new int[] {0, 60, 0}, new int[] {1, 29997, 1});
        fronts(rows(10, 9999, 9999, 9999), true, 0x4321, new int[] {0, 100, 0}, new int[] {1, 59994, 2});
        fronts(rows(10, 9999, 9999, 9999, 9999), true, 0x4321, new int[] {0, 100, 0}, new int[] {1, 99990, 3});
        fronts(rows(9999, 9999, 9999, 9999, 10), false, 0x4321, new int[] {4, 100, 0}, new int[] {3, 99990, 3});
        fronts(rows(9999, 10), false, 0x4321, new int[] {1, 30, 0}, new int[] {0, 9999, 0});
    }

    // III: "with it go those of the three rows next behind"
    private void threeRowsAtMost() {
        fronts(rows(0, 0, 0, 0), true, 1, new int[] {0, 0, 3});
        fronts(rows(0, 0, 0, 0, 0), true, 1, new int[] {0, 0, 3}, new int[] {4, 0, 0});
        fronts(rows(0, 0, 0, 0, 0, 0, 0, 0), true, 0x9999, new int[] {0, 0, 3}, new int[] {4, 0, 3});
        fronts(rows(0, 0, 0, 0, 0, 0, 0, 0), false, 0x9999, new int[] {7, 0, 3}, new int[] {3, 0, 3});
        fronts(rows(5, 1, 1, 1, 1, 1), true, 0x1111, new int[] {0, 20, 3}, new int[] {4, 2, 1});
        int[][] each = {{0, 1, 0}, {1, 2, 0}, {2, 3, 0}, {3, 4, 0}, {4, 5, 0}, {5, 6, 0}, {6, 7, 0}, {7, 8, 0}};
        fronts(rows(1, 2, 3, 4, 5, 6, 7, 8), true, 1, each);
        int[][] back = {{7, 8, 0}, {6, 7, 0}, {5, 6, 0}, {4, 5, 0}, {3, 4, 0}, {2, 3, 0}, {1, 2, 0}, {0, 1, 0}};
        fronts(rows(1, 2, 3, 4, 5, 6, 7, 8), false, 1, back);
    }

    // III: "one behind the other": one that holds stops those behind it; "The next front is the next row that has not gone"
    private void oneBehindTheOther() {
        fronts(rows(5, 6, 0, 0), true, 0x1111, new int[] {0, 20, 0}, new int[] {1, 18, 2});
        fronts(rows(5, 5, 6, 0), true, 0x1111, new int[] {0, 20, 1}, new int[] {2, 12, 1});
        fronts(rows(5, 5, 5, 6), true, 0x1111, new int[] {0, 20, 2}, new int[] {3, 6, 0});
        fronts(rows(5, 5, 5, 5), true, 0x1111, new int[] {0, 20, 3});
        fronts(rows(6, 5, 5, 5), false, 0x1111, new int[] {3, 20, 2}, new int[] {0, 6, 0});
    }

    // III: "HOLD of a row: opens of its CAUGHT HOOKS, added up": the greatest HOLDS, FORCES and WORK
    private void greatestForces() {
        HookBoard x = many("kind a stiff 1 opens 9999 tires 0 tears 9999;" + ALWAYS, 8, 7, 56);
        x.draw(0, 0, 0);
        int hold = 8 * 9999;
        fronts(x, true, 1, new int[] {0, hold, 0}, new int[] {1, hold, 0}, new int[] {2, hold, 0}, new int[] {3, hold, 0},
            new int[] {4, hold, 0}, new int[] {5, hold, 0}, new int[] {6, hold, 0});
        fronts(x, true, 0x9991, new int[] {0, hold * 28, 3}, new int[] {4, hold * 19, 2});
        fronts(x, true, 0x9909, new int[] {0, hold * 3, 0}, new int[] {1, hold * 3, 0}, new int[] {2, hold * 3, 0},
            new int[] {3, hold * 3, 0}, new int[] {4, hold * 2, 0}, new int[] {5, hold, 0}, new int[] {6, hold, 0});
        HookBoard y = Check.board(PLAIN + "catch 1000 when not column = 1;", 3, 2);
        for (int cell = 0; cell < 6; cell++) {
            y.hook(cell, 0, 0);
            y.loops(cell, cell == 5 ? 0 : 1);
        }
        due("21: draw", y.draw(0, 0, 0), 3);
        fronts(y, true, 1, new int[] {0, 2, 0}, new int[] {1, 1, 0});
    }

    // Promise 29: "NONE when there is none such, or for others"
    private void frontsThatThereAre() {
        HookBoard x = rows(5, 6, 7);
        fronts(x, true, 1, new int[] {0, 5, 0}, new int[] {1, 6, 0}, new int[] {2, 7, 0});
        for (int k : new int[] {LEAST, -1, 3, 4, 7, 8, MOST}) {
            for (int what = -1; what <= 3; what++) {
                due("29: front(" + k + ", " + what + ")", x.front(k, what), NONE);
            }
        }
        for (int what : new int[] {LEAST, -1, 3, 4, MOST}) {
            for (int k = 0; k < 3; k++) {
                due("29: front(" + k + ", " + what + ")", x.front(k, what), NONE);
            }
        }
    }

    // "by the latest draw() that was not NONE, and the HOOKS as they were then"; 29, 30: "of the latest peel() .. not NONE"
    private void peelOfTheLatestDraw() {
        HookBoard x = rows(5, 6);
        x.hook(0, 1, 0);
        x.as(0);
        fronts(x, true, 1, new int[] {0, 5, 0}, new int[] {1, 6, 0});
        due("28: refused", x.peel(true, 0), NONE);
        due("21: as known at 0", x.draw(0, 0, 0), 0);
        due("30: of the latest peel()", x.work(), 11);
        due("29: of the latest peel()", x.front(1, 1), 6);
        due("28: by the latest draw()", x.peel(true, 1), 1);
        due("30: work", x.work(), 0);
        due("29: front(0, 2)", x.front(0, 2), 1);
        due("29: front(1, 1)", x.front(1, 1), NONE);
    }
}
