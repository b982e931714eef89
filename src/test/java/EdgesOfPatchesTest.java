import java.math.BigInteger;

/** PATCHES, BATCHES and promises 31 to 38: each sentence that names a boundary case has a test of its own. */
public final class EdgesOfPatchesTest {
    private static final int NONE = HookBoard.NONE;
    private static final int LEAST = Integer.MIN_VALUE;
    private static final int MOST = Integer.MAX_VALUE;

    private final Check check = new Check();

    public static void main(String[] args) {
        EdgesOfPatchesTest test = new EdgesOfPatchesTest();
        test.patchThatCanBe();
        test.patchesUpTo12();
        test.forceThatCanBe();
        test.pullsUpTo8();
        test.clearOfAll();
        test.chooseThatCanBe();
        test.chooseOfNothing();
        test.reachNotMoreThan();
        test.lessTheGreatest();
        test.notMoreThanOpen();
        test.leastCost();
        test.fewestPatches();
        test.firstAsRisingRows();
        test.allTwelve();
        test.everyPull();
        test.chosenThatThereWas();
        test.foundThatCanBe();
        test.foundOfEdges();
        test.foundOfTheGreatest();
        test.testsThatCanBe();
        test.testsNotBelow();
        test.testsWithoutOne();
        test.allOfAll();
        test.call512();
        test.check.finish();
    }

    private void due(String call, long got, long want) {
        check.due(call, got, want);
    }

    private static HookBoard patches(int[]... patches) {
        HookBoard x = new HookBoard();
        for (int[] p : patches) {
            x.patch(p[0], p[1], p[2]);
        }
        return x;
    }

    private void chosen(HookBoard x, String flags) {
        for (int k = 0; k < flags.length(); k++) {
            due("35: chosen(" + k + ") of " + flags, x.chosen(k), flags.charAt(k) - '0');
        }
        due("35: none behind", x.chosen(flags.length()), NONE);
    }

    // Promise 31: "NONE when something can't be"; V: "a place (0 .. 99), bear 1 .. 999, cost 1 .. 999"
    private void patchThatCanBe() {
        HookBoard x = new HookBoard();
        int count = 0;
        for (int place : new int[] {LEAST, -1, 0, 99, 100, MOST}) {
            for (int bears : new int[] {LEAST, -1, 0, 1, 999, 1000, MOST}) {
                for (int cost : new int[] {LEAST, -1, 0, 1, 999, 1000, MOST}) {
                    boolean can = (place == 0 || place == 99) && (bears == 1 || bears == 999) && (cost == 1 || cost == 999);
                    count += can ? 1 : 0;
                    due("31: patch(" + place + ", " + bears + ", " + cost + ")", x.patch(place, bears, cost),
                        can ? count : NONE);
                }
            }
        }
        due("38: PATCHES", x.all(5), 8);
    }

    // V: "PATCHES (12 at most)"; promise 31: "or there are 12"
    private void patchesUpTo12() {
        HookBoard x = new HookBoard();
        for (int n = 1; n <= 12; n++) {
            due("31: so many", x.patch(n, n, n), n);
        }
        due("31: a 13th", x.patch(0, 1, 1), NONE);
        due("31: a 13th that can't be", x.patch(100, 1, 1), NONE);
        due("38: PATCHES", x.all(5), 12);
        x.force(12, 11);
        due("34: the 12th is as it was", x.choose(1, 20000), 23);
        chosen(x, "000000000011");
        due("33: clear", x.clear(), 12);
        for (int n = 1; n <= 12; n++) {
            due("31: so many anew", x.patch(0, 1, 1), n);
        }
        due("31: a 13th", x.patch(0, 1, 1), NONE);
    }

    // Promise 32: "NONE when something can't be"; V: "a place and a force (1 .. 9999)"
    private void forceThatCanBe() {
        HookBoard x = new HookBoard();
        int count = 0;
        for (int place : new int[] {LEAST, -1, 0, 99, 100, MOST}) {
            for (int force : new int[] {LEAST, -1, 0, 1, 9999, 10000, MOST}) {
                boolean can = (place == 0 || place == 99) && (force == 1 || force == 9999);
                count += can ? 1 : 0;
                due("32: force(" + place + ", " + force + ")", x.force(place, force), can ? count : NONE);
            }
        }
        due("38: PULLS", x.all(6), 4);
    }

    // V: "PULLS (8 at most)"; promise 32: "or there are 8"
    private void pullsUpTo8() {
        HookBoard x = new HookBoard();
        for (int n = 1; n <= 8; n++) {
            due("32: so many", x.force(n, n), n);
        }
        due("32: a 9th", x.force(0, 1), NONE);
        due("32: a 9th that can't be", x.force(0, 0), NONE);
        due("38: PULLS", x.all(6), 8);
        x.patch(8, 8, 1);
        x.patch(8, 7, 1);
        due("34: the 8th asks for 8", x.choose(99, 20000), NONE);
        x.patch(8, 8, 1);
        due("34: the 8th is held", x.choose(99, 20000), 2);
        chosen(x, "101");
        x.clear();
        for (int n = 1; n <= 8; n++) {
            due("32: so many anew", x.force(0, 1), n);
        }
        due("32: a 9th", x.force(0, 1), NONE);
    }

    // Promise 33: "No PATCHES, no PULLS any more: how many PATCHES there were"
    private void clearOfAll() {
        HookBoard x = new HookBoard();
        due("33: clear of none", x.clear(), 0);
        x.force(0, 1);
        due("33: PULLS are not counted", x.clear(), 0);
        due("38: PULLS", x.all(6), 0);
        x.patch(0, 1, 1);
        x.patch(0, 1, 1);
        x.patch(0, 1, 1);
        x.force(0, 1);
        due("33: clear", x.clear(), 3);
        due("33: clear again", x.clear(), 0);
        due("38: PATCHES", x.all(5), 0);
        due("38: PULLS", x.all(6), 0);
        due("34: nothing to hold", x.choose(0, 0), 0);
        due("31: from 1 on", x.patch(5, 7, 9), 1);
        due("32: from 1 on", x.force(5, 7), 1);
        due("34: one alone", x.choose(99, 20000), NONE);
        due("31: a second", x.patch(5, 7, 9), 2);
        due("34: the new ones alone", x.choose(0, 20000), 18);
    }

    // Promise 34: "NONE when a number can't be (OPEN 0 .. 20000)"; V: "REACH (0 .. 99)"
    private void chooseThatCanBe() {
        HookBoard x = new HookBoard();
        for (int reach : new int[] {LEAST, -1, 0, 99, 100, MOST}) {
            for (int open : new int[] {LEAST, -1, 0, 1, 20000, 20001, MOST}) {
                boolean can = reach >= 0 && reach <= 99 && open >= 0 && open <= 20000;
                due("34: choose(" + reach + ", " + open + ")", x.choose(reach, open), can ? 0 : NONE);
            }
        }
    }

    // V: without PULLS the empty set HOLDS all; without PATCHES none HOLDS a PULL
    private void chooseOfNothing() {
        HookBoard x = new HookBoard();
        due("34: neither", x.choose(0, 0), 0);
        due("35: none then", x.chosen(0), NONE);
        x.patch(0, 1, 1);
        due("34: no PULLS", x.choose(99, 20000), 0);
        chosen(x, "0");
        x.clear();
        x.force(0, 1);
        due("34: no PATCHES", x.choose(99, 20000), NONE);
        chosen(x, "0");
    }

    // V: "whose place is not more than REACH (0 .. 99) off"
    private void reachNotMoreThan() {
        HookBoard x = patches(new int[] {40, 9, 1}, new int[] {60, 9, 2}, new int[] {50, 9, 4});
        x.force(50, 9);
        due("34: reach 9", x.choose(9, 20000), NONE);
        due("34: reach 10, both sides", x.choose(10, 20000), 3);
        chosen(x, "110");
        HookBoard y = patches(new int[] {0, 9, 1}, new int[] {99, 9, 2});
        y.force(99, 9);
        due("34: reach 98", y.choose(98, 20000), NONE);
        due("34: reach 99", y.choose(99, 20000), 3);
        HookBoard z = patches(new int[] {7, 9, 1}, new int[] {7, 9, 2}, new int[] {8, 9, 1}, new int[] {6, 9, 1});
        z.force(7, 9);
        due("34: reach 0", z.choose(0, 20000), 3);
        chosen(z, "1100");
        due("34: reach 1", z.choose(1, 20000), 2);
        chosen(z, "1010");
    }

    // V: "less the greatest of these, is not below the force (one may be lost)"
    private void lessTheGreatest() {
        HookBoard x = patches(new int[] {0, 999, 1}, new int[] {0, 5, 2}, new int[] {0, 6, 4});
        x.force(0, 11);
        due("34: without the greatest just enough", x.choose(0, 20000), 7);
        x.force(0, 12);
        due("34: one too few", x.choose(0, 20000), NONE);
        HookBoard y = patches(new int[] {0, 999, 1});
        y.force(0, 1);
        due("34: one alone is lost", y.choose(0, 20000), NONE);
        HookBoard z = patches(new int[] {0, 7, 1}, new int[] {0, 7, 1}, new int[] {1, 9, 1});
        z.force(0, 7);
        due("34: of like ones one is lost", z.choose(0, 20000), 2);
        z.force(0, 8);
        due("34: out of reach it does not count", z.choose(0, 20000), NONE);
        due("34: in reach it does", z.choose(1, 20000), 3);
    }

    // V: "of which all together bear not more than OPEN"
    private void notMoreThanOpen() {
        HookBoard x = patches(new int[] {0, 10, 1}, new int[] {0, 10, 1}, new int[] {0, 4, 9}, new int[] {0, 4, 9},
            new int[] {90, 1, 1});
        x.force(0, 4);
        due("34: open 20", x.choose(0, 20), 2);
        due("34: open 19", x.choose(0, 19), 10);
        chosen(x, "10100");
        due("34: open 14", x.choose(0, 14), 10);
        due("34: open 13", x.choose(0, 13), 18);
        chosen(x, "00110");
        due("34: open 8", x.choose(0, 8), 18);
        due("34: open 7", x.choose(0, 7), NONE);
        due("34: open 0", x.choose(0, 0), NONE);
        chosen(x, "00110");
        HookBoard far = patches(new int[] {0, 5, 1}, new int[] {0, 5, 1}, new int[] {99, 5, 1}, new int[] {99, 5, 1});
        far.force(0, 5);
        far.force(99, 5);
        due("34: all together, also those far off", far.choose(0, 20), 4);
        due("34: one below", far.choose(0, 19), NONE);
    }

    // V: "with the least cost"
    private void leastCost() {
        HookBoard x = patches(new int[] {0, 5, 999}, new int[] {0, 5, 999}, new int[] {0, 1, 399}, new int[] {0, 1, 399},
            new int[] {0, 1, 399}, new int[] {0, 1, 399}, new int[] {0, 1, 399}, new int[] {0, 1, 399});
        x.force(0, 5);
        due("34: two of 999", x.choose(0, 20000), 1998);
        HookBoard y = patches(new int[] {0, 5, 999}, new int[] {0, 5, 999}, new int[] {0, 1, 332}, new int[] {0, 1, 333},
            new int[] {0, 1, 333}, new int[] {0, 1, 333}, new int[] {0, 1, 333}, new int[] {0, 1, 333});
        y.force(0, 5);
        due("34: six that are cheaper by 1", y.choose(0, 20000), 1997);
        chosen(y, "00111111");
    }

    // V: "of several the fewest PATCHES"
    private void fewestPatches() {
        HookBoard x = patches(new int[] {0, 3, 1}, new int[] {0, 3, 1}, new int[] {0, 3, 2}, new int[] {0, 6, 2},
            new int[] {0, 6, 2});
        x.force(0, 6);
        due("34: two for 4, not three", x.choose(0, 20000), 4);
        chosen(x, "00011");
        HookBoard y = patches(new int[] {0, 6, 2}, new int[] {0, 6, 2}, new int[] {0, 3, 1}, new int[] {0, 3, 1},
            new int[] {0, 3, 2});
        y.force(0, 6);
        due("34: the other way about", y.choose(0, 20000), 4);
        chosen(y, "11000");
    }

    // V: "of several the first in the order of sets as rising rows"
    private void firstAsRisingRows() {
        HookBoard x = patches(new int[] {0, 5, 3}, new int[] {0, 5, 2}, new int[] {0, 5, 2}, new int[] {0, 5, 1});
        x.force(0, 5);
        due("34: {1, 3} ahead of {2, 3}", x.choose(0, 20000), 3);
        chosen(x, "0101");
        // {0, 1} and {0, 2} bear too much; {0, 3} and {1, 2} cost 4
        HookBoard y = patches(new int[] {0, 10, 1}, new int[] {0, 6, 2}, new int[] {0, 6, 2}, new int[] {0, 5, 3});
        y.force(0, 5);
        due("34: {0, 3} ahead of {1, 2}", y.choose(0, 15), 4);
        chosen(y, "1001");
        due("34: {0, 3} bears 15", y.choose(0, 14), 4);
        chosen(y, "0110");
        // the same backwards: {0, 3} and {1, 2} again
        HookBoard z = patches(new int[] {0, 5, 3}, new int[] {0, 6, 2}, new int[] {0, 6, 2}, new int[] {0, 10, 1});
        z.force(0, 5);
        due("34: {0, 3} ahead of {1, 2}", z.choose(0, 15), 4);
        chosen(z, "1001");
        HookBoard like = patches(new int[] {0, 5, 7}, new int[] {0, 5, 7}, new int[] {0, 5, 7}, new int[] {0, 5, 7});
        like.force(0, 10);
        due("34: {0, 1, 2}", like.choose(0, 20000), 21);
        chosen(like, "1110");
        // three of five
        HookBoard five = patches(new int[] {0, 5, 2}, new int[] {0, 5, 2}, new int[] {0, 5, 2}, new int[] {0, 5, 2},
            new int[] {0, 5, 2});
        five.force(0, 10);
        due("34: {0, 1, 2}", five.choose(0, 20000), 6);
        chosen(five, "11100");
    }

    // A full set: all 12 PATCHES for 8 PULLS
    private void allTwelve() {
        HookBoard x = new HookBoard();
        for (int n = 0; n < 12; n++) {
            x.patch(n * 9, 999, 999);
        }
        for (int n = 0; n < 7; n++) {
            x.force(n, 9999);
        }
        x.force(99, 10);
        due("34: 11 times 999 is 10989", x.choose(99, 20000), 999 * 12);
        chosen(x, "111111111111");
        due("34: all bear 11988", x.choose(99, 11988), 999 * 12);
        due("34: open 11987", x.choose(99, 11987), NONE);
        due("34: the last is 99 off the first", x.choose(92, 20000), NONE);
        x.clear();
        for (int n = 0; n < 12; n++) {
            x.patch(0, 1, 1);
        }
        x.force(0, 11);
        due("34: 11 of 12", x.choose(0, 20000), 12);
        x.force(0, 12);
        due("34: 12 of 12 can't be", x.choose(0, 20000), NONE);
    }

    // V: "the set that HOLDS all PULLS": the first and the last among them
    private void everyPull() {
        for (int last = 0; last < 8; last++) {
            HookBoard x = patches(new int[] {0, 5, 1}, new int[] {0, 5, 1}, new int[] {50, 3, 1}, new int[] {50, 3, 1});
            for (int n = 0; n < 8; n++) {
                x.force(n == last ? 50 : 0, n == last ? 3 : 5);
            }
            due("34: the " + last + "th asks for others", x.choose(0, 20000), 4);
            HookBoard y = patches(new int[] {0, 5, 1}, new int[] {0, 5, 1});
            for (int n = 0; n < 8; n++) {
                y.force(0, n == last ? 6 : 5);
            }
            due("34: the " + last + "th is not held", y.choose(0, 20000), NONE);
        }
    }

    // Promise 35: "of the latest choose() that was not NONE: 1, 0; NONE when there was none such then"
    private void chosenThatThereWas() {
        HookBoard x = patches(new int[] {0, 5, 1}, new int[] {0, 5, 1}, new int[] {0, 5, 2});
        for (int k : new int[] {LEAST, -1, 0, 2, 3, MOST}) {
            due("35: without a choice", x.chosen(k), NONE);
        }
        x.force(0, 5);
        x.choose(0, 20000);
        chosen(x, "110");
        for (int k : new int[] {LEAST, -32, -1, 3, 4, 11, 12, 31, 32, 33, 64, MOST}) {
            due("35: chosen(" + k + ")", x.chosen(k), NONE);
        }
        x.patch(0, 5, 1);
        chosen(x, "110");
        due("34: refused", x.choose(100, 0), NONE);
        chosen(x, "110");
        due("34: there is none", x.choose(0, 1), NONE);
        chosen(x, "110");
        x.clear();
        chosen(x, "110");
        x.patch(0, 1, 1);
        chosen(x, "110");
        due("4: a text", x.text(1, 1), 0);
        chosen(x, "110");
        x.choose(0, 0);
        chosen(x, "0");
        x.clear();
        due("34: of no PATCHES", x.choose(0, 0), 0);
        due("35: none such then", x.chosen(0), NONE);
    }

    // Promise 36: "FOUND k (0 .. n) .. NONE when something can't be"; V: "N (1 .. 50) with B (0 .. N) .. n (0 .. N)"
    private void foundThatCanBe() {
        for (int all : new int[] {1, 2, 49, 50}) {
            HookBoard x = new HookBoard();
            for (int bad : new int[] {-1, 0, all, all + 1}) {
                for (int tested : new int[] {-1, 0, all, all + 1}) {
                    for (int k : new int[] {-1, 0, Math.max(0, tested), tested + 1}) {
                        boolean can = bad >= 0 && bad <= all && tested >= 0 && tested <= all && k >= 0 && k <= tested;
                        // of none tested none is bad; of all tested just those that are bad
                        int found = tested == 0 ? 0 : bad;
                        due("36: found(" + all + ", " + bad + ", " + tested + ", " + k + ", true)",
                            x.found(all, bad, tested, k, true), can ? k <= found ? 1 : 0 : NONE);
                        due("36: found(" + all + ", " + bad + ", " + tested + ", " + k + ", false)",
                            x.found(all, bad, tested, k, false), can ? 1 : NONE);
                    }
                }
            }
        }
        HookBoard x = new HookBoard();
        for (int n : new int[] {LEAST, -1, 0, 51, 52, MOST}) {
            due("36: N " + n, x.found(n, 0, 0, 0, true), NONE);
            due("36: N " + n, x.found(n, 0, 0, 0, false), NONE);
        }
        for (int n : new int[] {LEAST, -1, 6, MOST}) {
            due("36: B " + n, x.found(5, n, 3, 0, true), NONE);
            due("36: n " + n, x.found(5, 3, n, 0, true), NONE);
            due("36: k " + n, x.found(5, 3, 3, n, true), NONE);
        }
    }

    // V: "the ways to pick n of N with k or more bad ones"
    private void foundOfEdges() {
        HookBoard x = new HookBoard();
        // 10 with 4 bad, 3 tested: 20, 60, 36, 4 ways for 0, 1, 2, 3
        long[] ways = {120, 100, 40, 4};
        for (int k = 0; k <= 3; k++) {
            due("36: k " + k, x.found(10, 4, 3, k, true), ways[k]);
            due("36: not reduced", x.found(10, 4, 3, k, false), 120);
        }
        due("36: k 4", x.found(10, 4, 3, 4, true), NONE);
        due("36: more than are bad", x.found(10, 1, 3, 2, true), 0);
        due("36: 1 bad", x.found(10, 1, 3, 1, true), 36);
        due("36: some must be bad", x.found(10, 8, 3, 1, true), 120);
        due("36: none bad", x.found(10, 0, 3, 0, true), 120);
        due("36: none bad", x.found(10, 0, 3, 1, true), 0);
        due("36: all bad", x.found(10, 10, 3, 3, true), 120);
    }

    private static BigInteger ways(int n, int k) {
        BigInteger ways = BigInteger.ONE;
        for (int i = 0; i < k; i++) {
            ways = ways.multiply(BigInteger.valueOf(n - i)).divide(BigInteger.valueOf(i + 1));
        }
        return k > n ? BigInteger.ZERO : ways;
    }

    // The greatest numbers are beyond an int
    private void foundOfTheGreatest() {
        for (int tested = 0; tested <= 50; tested++) {
            HookBoard x = new HookBoard();
            due("36: below the line, " + tested, x.found(50, 25, tested, 0, false), ways(50, tested).longValueExact());
            BigInteger sum = BigInteger.ZERO;
            for (int k = tested; k >= 0; k--) {
                sum = sum.add(ways(25, k).multiply(ways(25, tested - k)));
                due("36: above the line, " + tested + ", " + k, x.found(50, 25, tested, k, true), sum.longValueExact());
            }
        }
    }

    // Promise 37: "NONE when something can't be"; V: "a share p (1 .. 1000)"
    private void testsThatCanBe() {
        HookBoard x = new HookBoard();
        due("37: N 1", x.tests(1, 1, 1), 1);
        due("37: N 1, p 1000", x.tests(1, 1, 1000), 1);
        due("37: N 50", x.tests(50, 50, 1000), 1);
        due("37: N 50, B 1", x.tests(50, 1, 1), 1);
        for (int n : new int[] {LEAST, -1, 0, 51, MOST}) {
            due("37: N " + n, x.tests(n, 1, 500), NONE);
            due("37: N and B " + n, x.tests(n, n, 500), NONE);
        }
        for (int n : new int[] {LEAST, -1, 6, MOST}) {
            due("37: B " + n, x.tests(5, n, 500), NONE);
        }
        for (int n : new int[] {LEAST, -1, 0, 1001, MOST}) {
            due("37: p " + n, x.tests(5, 2, n), NONE);
        }
    }

    // V: "the least n for which that of one or more is not below p in 1000"
    private void testsNotBelow() {
        HookBoard x = new HookBoard();
        // with one bad of N it is n / N
        for (int n = 1; n <= 50; n++) {
            due("37: just n in 50", x.tests(50, 1, n * 20), n);
            due("37: just above", x.tests(50, 1, n * 20 - 19), n);
            due("37: just above the one ahead", x.tests(50, 1, Math.min(1000, n * 20 + 1)), Math.min(50, n + 1));
        }
        // 4 with 2 bad: 1/2, 5/6, 1
        int[][] due = {{1, 1}, {500, 1}, {501, 2}, {833, 2}, {834, 3}, {1000, 3}};
        for (int[] d : due) {
            due("37: tests(4, 2, " + d[0] + ")", x.tests(4, 2, d[0]), d[1]);
        }
        for (int bad = 1; bad <= 50; bad++) {
            due("37: for sure, of " + bad, x.tests(50, bad, 1000), 51 - bad);
        }
        // 25 of 50 in 1000: the numbers are at their greatest
        for (int p = 1; p <= 1000; p += 37) {
            int n = 0;
            while (ways(50, n).subtract(ways(47, n)).multiply(BigInteger.valueOf(1000))
                .compareTo(ways(50, n).multiply(BigInteger.valueOf(p))) < 0) {
                n++;
            }
            due("37: tests(50, 3, " + p + ")", x.tests(50, 3, p), n);
        }
    }

    // Promise 37: "or there is no such n"
    private void testsWithoutOne() {
        HookBoard x = new HookBoard();
        for (int all = 1; all <= 50; all++) {
            due("37: none bad", x.tests(all, 0, 1), NONE);
            due("37: none bad", x.tests(all, 0, 1000), NONE);
            due("37: one bad", x.tests(all, 1, 1000), all);
        }
    }

    // Promise 38: "NONE for others"
    private void allOfAll() {
        HookBoard x = Check.board("kind a stiff 1 opens 1 tires 0 tears 1;kind b stiff 1 opens 1 tires 0 tears 1;", 8, 8);
        for (int cell = 0; cell < 64; cell++) {
            x.hook(cell, 1, 0);
        }
        x.hook(0, 0, 0);
        x.wash();
        x.annul(64);
        x.patch(0, 1, 1);
        x.patch(0, 1, 1);
        x.patch(0, 1, 1);
        x.force(0, 1);
        int[] due = {64, 2, 67, 67, 63, 3, 1};
        for (int what = 0; what < 7; what++) {
            due("38: all(" + what + ")", x.all(what), due[what]);
        }
        for (int what : new int[] {LEAST, -2, -1, 7, 8, MOST}) {
            due("38: all(" + what + ")", x.all(what), NONE);
        }
        x.as(66);
        due("38: the ACT", x.all(3), 66);
        due("38: HOOKS as known", x.all(4), 64);
        due("38: ACTS", x.all(2), 67);
        x.as(0);
        due("38: the ACT", x.all(3), 0);
        due("38: HOOKS as known", x.all(4), 0);
        x.as(NONE);
        due("38: the last one", x.all(3), 67);
    }

    // "An object is used for at most 512 calls": the last of them is answered as the first
    private void call512() {
        HookBoard x = new HookBoard();
        x.loops(0, 9);
        for (int call = 2; call < 512; call++) {
            due("13: call " + call, x.cell(0, 4), 9);
        }
        due("8: call 512", x.loops(0, 1), 2);
    }
}
