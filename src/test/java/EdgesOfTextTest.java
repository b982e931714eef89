import java.util.List;

/** Terms I (but for ACTS) and promises 1 to 6: each sentence that names a boundary case has a test of its own. */
public final class EdgesOfTextTest {
    private static final int NONE = HookBoard.NONE;
    private static final int[] FAR = {Integer.MIN_VALUE, Integer.MIN_VALUE + 1, -65536, -2, -1};
    private static final String REST = " stiff 1 opens 1 tires 0 tears 1;";
    private static final String RULE = "lint 1 when all;";
    private static final List<String> OWN_WORDS = List.of("kind", "stiff", "opens", "tires", "tears", "catch", "when",
        "lint", "or", "and", "not", "all", "is", "press", "shake", "loops", "worn", "row", "column", "min", "max");

    private final Check check = new Check();

    public static void main(String[] args) {
        EdgesOfTextTest test = new EdgesOfTextTest();
        test.newObject();
        test.everyByteFed();
        test.tapeUpTo700();
        test.refusedFeedDoesNothing();
        test.endKeepsTheFirstBytes();
        test.refusedEndDoesNothing();
        test.boardOneToEight();
        test.emptyText();
        test.allThatGoes();
        test.textAfterText();
        test.fullTape();
        test.tapeGoes();
        test.faultOfTheLatestRead();
        test.blanksAreTwo();
        test.noBlanksNeeded();
        test.sideBySide();
        test.endsTooSoon();
        test.goesNoFurther();
        test.wholeWords();
        test.fifthDigit();
        test.seventhLetter();
        test.lettersOfNames();
        test.ownWordsAsNames();
        test.unlikeNames();
        test.namesBehindIs();
        test.numbersOfKinds();
        test.sixOpenAtOnce();
        test.notUntilItsFactEnds();
        test.eightKinds();
        test.twentyFourStatements();
        test.firstAlongTheText();
        test.kindsThatThereAre();
        test.longSums();
        test.check.finish();
    }

    private void due(String call, long got, long want) {
        check.due(call, got, want);
    }

    private void due(String call, boolean got, boolean want) {
        check.due(call, got, want);
    }

    /** fault 0 is none: then place is NONE, and the answer is how many statements there are. */
    private void read(String text, int fault, int place, int statements) {
        HookBoard x = new HookBoard();
        due("text " + text, Check.text(x, text, 1, 1), statements);
        due("fault(0) of " + text, x.fault(0), fault);
        due("fault(1) of " + text, x.fault(1), place);
    }

    private void faulty(String text, int fault, int place) {
        read(text, fault, place, NONE);
    }

    private void fine(String text, int statements) {
        read(text, 0, NONE, statements);
    }

    // Promise 1: "A BOARD of one CELL; no KINDS, ACTS, PATCHES, PULLS."
    private void newObject() {
        HookBoard x = new HookBoard();
        due("1: CELLS", x.all(0), 1);
        due("1: KINDS", x.all(1), 0);
        due("1: ACTS", x.all(2), 0);
        due("1: HOOKS", x.all(4), 0);
        due("1: PATCHES", x.all(5), 0);
        due("1: PULLS", x.all(6), 0);
        due("1: the first CELL", x.loops(0, 1), 1);
        due("1: no second CELL", x.loops(1, 1), NONE);
        due("1: no KIND", x.hook(0, 0, 0), NONE);
        due("1: an empty tape", x.end(1), false);
        due("1: no PATCH to choose", x.choose(0, 0), 0);
        due("1: no PATCH chosen", x.chosen(0), NONE);
        nothingMade(new HookBoard());
        HookBoard y = new HookBoard();
        due("18: a table of no HOOKS", y.table(0, 0), 0);
        due("21: a draw of no HOOKS", y.draw(0, 0, 0), 0);
        due("28: one front", y.peel(true, 0x1111), 1);
        due("29: its one row", y.front(0, 0), 0);
        due("29: no row went with it", y.front(0, 2), 0);
        due("22: no HOOK there", y.caught(0), NONE);
    }

    private void nothingMade(HookBoard x) {
        due("19: no table", x.odds(0), NONE);
        due("20: no table", x.sure(1), NONE);
        due("22: no draw", x.caught(0), NONE);
        due("24: no pull", x.step(0), NONE);
        due("25: no pull", x.load(0, true), NONE);
        due("25: no pull", x.load(0, false), NONE);
        due("26: no pull", x.greatest(), NONE);
        due("27: no pull", x.hung(0), NONE);
        due("29: no peel", x.front(0, 0), NONE);
        due("30: no peel", x.work(), NONE);
        due("23: no draw", x.pull(), NONE);
        due("28: no draw", x.peel(true, 1), NONE);
    }

    // Promise 2: "Twenty bytes come behind those on the tape, of each number the highest first"
    private void everyByteFed() {
        for (int place = 0; place < 20; place++) {
            int[] numbers = {0x20202020, 0x20202020, 0x20202020, 0x20202020, 0x20202020};
            int shift = 24 - place % 4 * 8;
            numbers[place / 4] = numbers[place / 4] & ~(255 << shift) | 200 << shift;
            HookBoard x = new HookBoard();
            x.feed(0x20202020, 0x20202020, 0x20202020, 0x20202020, 0x20202020);
            due("2: feed", x.feed(numbers[0], numbers[1], numbers[2], numbers[3], numbers[4]), 40);
            due("2: text", x.text(1, 1), NONE);
            due("2: the byte of 200", x.fault(1), 20 + place);
        }
        for (int value = 0; value < 256; value++) {
            HookBoard x = new HookBoard();
            x.feed(value << 24 | 0x00202020, 0x20202020, 0x20202020, 0x20202020, 0x20202020);
            boolean blank = value == 10 || value == 32;
            due("2: a byte of " + value, x.text(1, 1), blank ? 0 : NONE);
            due("2: its place", x.fault(1), blank ? NONE : 0);
        }
    }

    // Promise 2: "how many there are; NONE .. if there would be more than 700"
    private void tapeUpTo700() {
        HookBoard x = new HookBoard();
        for (int size = 20; size <= 700; size += 20) {
            due("2: feed up to " + size, x.feed(0, 0, 0, 0, 0), size);
        }
        due("2: a full tape", x.feed(0, 0, 0, 0, 0), NONE);
        for (int size = 699; size > 680; size--) {
            due("3: end(" + size + ")", x.end(size), true);
            due("2: feed behind " + size, x.feed(0, 0, 0, 0, 0), NONE);
        }
        due("3: end(680)", x.end(680), true);
        due("2: feed behind 680", x.feed(0, 0, 0, 0, 0), 700);
        due("3: end(1)", x.end(1), true);
        due("2: feed behind 1", x.feed(0, 0, 0, 0, 0), 21);
    }

    // Promise 2: "NONE, doing nothing"
    private void refusedFeedDoesNothing() {
        HookBoard x = new HookBoard();
        Check.feed(x, RULE + " ".repeat(668) + RULE.substring(0, 15) + "?");
        due("2: its 701st byte", x.end(701), false);
        x.end(699);
        due("2: feed behind 699", x.feed(-1, -1, -1, -1, -1), NONE);
        due("2: its 700th byte", x.end(700), false);
        due("2: text", x.text(1, 1), NONE);
        due("2: it ends too soon", x.fault(0), 1);
        due("2: at its length", x.fault(1), 699);
    }

    // Promise 3: "The tape has its first n bytes alone: true"
    private void endKeepsTheFirstBytes() {
        HookBoard x = new HookBoard();
        Check.feed(x, "lint 7 when all;????");
        due("3: end(20), all that it has", x.end(20), true);
        due("3: end(16)", x.end(16), true);
        due("3: end(17), no more there", x.end(17), false);
        due("2: feed behind them", x.feed(0x63617463, 0x68203120, 0x7768656e, 0x20616c6c, 0x3b202020), 36);
        due("3: end(33)", x.end(33), true);
        due("4: both statements", x.text(1, 1), 2);
        due("3: end(0) of an empty tape", x.end(0), true);
        x.feed(-1, -1, -1, -1, -1);
        due("3: end(0)", x.end(0), true);
        due("4: no bytes", x.text(1, 1), 0);
    }

    // Promise 3: "false, doing nothing, if it has not so many, or n is below 0"
    private void refusedEndDoesNothing() {
        HookBoard x = new HookBoard();
        Check.feed(x, RULE + "    ");
        int[] cant = {-1, -2, -20, Integer.MIN_VALUE, 21, 40, 700, 701, Integer.MAX_VALUE};
        for (int n : cant) {
            due("3: end(" + n + ")", x.end(n), false);
        }
        due("3: it has 20 as before", x.feed(0x20202020, 0x20202020, 0x20202020, 0x20202020, 0x20202020), 40);
        due("3: text", x.text(1, 1), 1);
    }

    // I: "THE BOARD has 1 to 8 CELLS in a row, 1 to 8 rows"; promise 4: "-2 when the BOARD can't be"
    private void boardOneToEight() {
        for (int wide = 1; wide <= 8; wide++) {
            for (int high = 1; high <= 8; high++) {
                HookBoard x = Check.board(RULE, wide, high);
                due("4: CELLS of " + wide + ", " + high, x.all(0), wide * high);
                due("4: its last CELL", x.cell(wide * high - 1, 4), 0);
                due("4: none behind it", x.cell(wide * high, 4), NONE);
            }
        }
        int[] cant = {0, 9, 10, 16, 64, 65536, Integer.MAX_VALUE};
        HookBoard x = new HookBoard();
        for (int n : cant) {
            due("4: so wide: " + n, x.text(n, 1), -2);
            due("4: so high: " + n, x.text(1, n), -2);
            due("4: both: " + n, x.text(n, n), -2);
        }
        for (int n : FAR) {
            due("4: so wide: " + n, x.text(n, 1), -2);
            due("4: so high: " + n, x.text(1, n), -2);
            due("4: both: " + n, x.text(n, n), -2);
        }
        due("4: CELLS as before", x.all(0), 1);
    }

    // I: "THE TEXT has .. { STATEMENT ; }"; promise 4: "how many STATEMENTS"
    private void emptyText() {
        fine("", 0);
        fine(" ", 0);
        fine("\n", 0);
        fine(" \n".repeat(350), 0);
        HookBoard x = Check.board("kind a" + REST, 2, 2);
        x.wash();
        due("4: an empty text", x.text(1, 1), 0);
        due("4: it has no KINDS", x.all(1), 0);
        due("4: its BOARD", x.all(0), 1);
        due("4: ACTS go", x.all(2), 0);
    }

    // Promise 4: "Without one ACTS go, as() is NONE, there is no odds(), draw(), pull(), peel()"
    private void allThatGoes() {
        HookBoard x = Check.board("kind a" + REST + "catch 1000 when all;", 1, 1);
        x.hook(0, 0, 0);
        x.loops(0, 1);
        x.table(0, 0);
        x.draw(0, 0, 0);
        x.pull();
        x.peel(true, 1);
        x.as(0);
        Check.text(x, "kind a" + REST, 1, 1);
        nothingMade(x);
        due("4: ACTS go", x.all(2), 0);
        due("4: as() is NONE", x.loops(0, 7), 1);
        due("4: as() is NONE", x.cell(0, 4), 7);
    }

    // Promise 4: a text takes the place of the one ahead of it, whatever that had
    private void textAfterText() {
        HookBoard x = new HookBoard();
        String full = "catch 0" + "+1".repeat(310) + " when 1<2;";
        for (int n = 0; n < 6; n++) {
            due("4: text " + n, Check.text(x, "kind a" + REST + full, 1, 1), 2);
        }
        due("17: the sixth as the first", chanceNow(x), 310);
        for (int n = 0; n < 2; n++) {
            Check.text(x, "kind a" + REST + "catch 5 when not all;catch 6 when all;", 1, 1);
            due("17: the second rule", chanceNow(x), 6);
        }
        for (int n = 0; n < 2; n++) {
            Check.text(x, "kind a" + REST + "catch 5 when not all;", 1, 1);
            due("17: no second rule", chanceNow(x), 0);
        }
        for (int n = 0; n < 2; n++) {
            Check.text(x, "kind a" + REST, 1, 1);
            due("17: no rule", chanceNow(x), 0);
        }
    }

    private static int chanceNow(HookBoard x) {
        x.hook(0, 0, 0);
        x.loops(0, 1);
        return x.chance(0, 0, 0);
    }

    // Promise 2 and 4: a text of 700 bytes
    private void fullTape() {
        fine(" ".repeat(684) + RULE, 1);
        fine(RULE + "\n".repeat(684), 1);
        faulty(" ".repeat(699) + "?", 1, 699);
        faulty(" ".repeat(685) + RULE.substring(0, 15), 1, 700);
        faulty(" ".repeat(696) + "kind", 1, 700);
        faulty(" ".repeat(697) + "kin", 1, 697);
        faulty("kind a stiff" + " ".repeat(684) + "1000", 2, 696);
    }

    // Promise 4: "The tape (it goes)"
    private void tapeGoes() {
        int[][] sizes = {{1, 1}, {8, 8}, {0, 1}, {1, 9}};
        String[] texts = {RULE, "", "?", "kind", "catch 1 when is a;"};
        for (int[] size : sizes) {
            for (String text : texts) {
                HookBoard x = new HookBoard();
                Check.text(x, text, size[0], size[1]);
                due("4: the tape goes", x.end(1), false);
                due("4: nothing is left to read", x.text(1, 1), 0);
            }
        }
    }

    // Promise 5: "Of the latest text() that read one: its FAULT (0; 0 without, and ahead of any), its place (1; NONE
    // without). NONE for another what."
    private void faultOfTheLatestRead() {
        HookBoard x = new HookBoard();
        int[][] fault = {{0, NONE}, {1, 3}, {0, NONE}, {2, 14}, {2, 14}, {3, 16}, {4, 12}, {5, 384}, {0, NONE}};
        String[] texts = {null, "   ?", RULE, "kind ab stiff 0", null, "catch 1 when is a;", "catch (((((((1",
            RULE.repeat(24) + "x", ""};
        for (int i = 0; i < texts.length; i++) {
            if (texts[i] != null) {
                Check.text(x, texts[i], 1, 1);
            } else {
                Check.text(x, "?", 0, 1);
            }
            due("5: fault(0), text " + i, x.fault(0), fault[i][0]);
            due("5: fault(1), text " + i, x.fault(1), fault[i][1]);
            int[] others = {2, 3, -1, -2, Integer.MIN_VALUE, Integer.MAX_VALUE};
            for (int what : others) {
                due("5: fault(" + what + ")", x.fault(what), NONE);
            }
        }
    }

    // I: "blanks (10, 32) between where one likes"
    private void blanksAreTwo() {
        for (char c = 0; c < 256; c++) {
            String text = "catch 1" + c + "when all;";
            if (c == 10 || c == 32) {
                fine(text, 1);
                fine(c + RULE + c + c + RULE + c, 2);
            } else if (c >= '0' && c <= '9' || "+-*/".indexOf(c) >= 0) {
                faulty(text, 1, 8);
            } else {
                faulty(text, 1, 7);
            }
        }
        fine(" kind \n a \n\n stiff  1\nopens 1\ntires 0\ntears 1 \n ; ", 1);
        fine("catch  min ( 1 , 2 ) * ( 3 ) + 4 when [ 1 < 2 ] and not [ all ] ; ", 1);
        fine("\ncatch\n1\nwhen\nnot\nall\nor\n1\n<\n2\n;\n", 1);
        faulty("lint 1 when 1 < = 2;", 1, 16);
        faulty("li nt 1 when all;", 1, 0);
        faulty("lint 1 2 when all;", 1, 7);
    }

    // I: "(words and numbers side by side need one)": signs need none
    private void noBlanksNeeded() {
        fine("catch(1)+press*2/min(3,shake)when[not[1<press]and 2>3]or lint=4 or all;lint 0-1 when(1)=1;", 2);
        fine("kind a stiff 1 opens 1 tires 0 tears 1;catch 1 when is a;lint 1 when all;", 3);
        fine("catch max(1,2)when 1<2;", 1);
        fine("catch(1)when not(1)<2;", 1);
    }

    // I: "words and numbers side by side need one"
    private void sideBySide() {
        faulty("kind a stiff1 opens 1 tires 0 tears 1;", 1, 12);
        faulty("kind a stiff 1opens 1 tires 0 tears 1;", 1, 14);
        faulty("kind a stiff 1 opens1 tires 0 tears 1;", 1, 20);
        faulty("kind a stiff 1 opens 1tires 0 tears 1;", 1, 22);
        faulty("kind a stiff 1 opens 1 tires0 tears 1;", 1, 28);
        faulty("kind a stiff 1 opens 1 tires 0tears 1;", 1, 30);
        faulty("kind a stiff 1 opens 1 tires 0 tears1;", 1, 36);
        faulty("kind a1 stiff 1", 1, 6);
        faulty("kind1 a stiff 1", 1, 4);
        faulty("catch1 when all;", 1, 5);
        faulty("catch 1when all;", 1, 7);
        faulty("catch 12345when all;", 1, 10);
        faulty("catch press1 when all;", 1, 11);
        faulty("catch 1 when1 < 2;", 1, 12);
        faulty("catch 1 when 1 < 2and all;", 1, 18);
        faulty("catch 1 when all and1 < 2;", 1, 20);
        faulty("catch 1 when 1 < 2or all;", 1, 18);
        faulty("catch 1 when all or1 < 2;", 1, 19);
        faulty("catch 1 when not1 < 2;", 1, 16);
        faulty("catch 1 when is1;", 1, 15);
        faulty("catch 1 when all1;", 1, 16);
        faulty("kinda stiff 1", 1, 0);
        faulty("kind astiff 1", 1, 12);
        faulty("catch 1 whenall;", 1, 8);
        faulty("catch 1 when notall;", 1, 13);
    }

    private static final String[] TOKENS = {"kind", "ab", "stiff", "999", "opens", "9999", "tires", "1000", "tears",
        "1", ";", "catch", "min", "(", "press", "+", "shake", ",", "max", "(", "7", ",", "loops", ")", "*", "lint", ")",
        "/", "(", "worn", "-", "row", ")", "when", "not", "[", "is", "ab", "or", "column", "<", "3", "and", "all", "]",
        "and", "1", ">", "(", "2", ")", "or", "not", "not", "4", "=", "5", ";", "lint", "0", "-", "1", "when", "all", ";"};

    private static String joined(int count, String blank) {
        StringBuilder text = new StringBuilder();
        for (int i = 0; i < count; i++) {
            text.append(i > 0 ? blank : "").append(TOKENS[i]);
        }
        return text.toString();
    }

    // I: FAULT 1 "at the text's length, if it ends too soon"
    private void endsTooSoon() {
        int statements = 0;
        for (int count = 1; count <= TOKENS.length; count++) {
            boolean whole = TOKENS[count - 1].equals(";");
            statements += whole ? 1 : 0;
            for (String blank : new String[] {" ", "\n", " \n "}) {
                for (String behind : new String[] {"", " ", "\n  "}) {
                    String text = joined(count, blank) + behind;
                    read(text, whole ? 0 : 1, whole ? NONE : text.length(), whole ? statements : NONE);
                }
            }
        }
    }

    // I: FAULT 1 "the first byte with which no TEXT goes on"
    private void goesNoFurther() {
        for (int count = 0; count <= TOKENS.length; count++) {
            for (String wrong : new String[] {"?", "}", "\t", "\u0000", "\u00ff", "\"", ".", ":", "!", "{"}) {
                String ahead = joined(count, " ") + " ";
                faulty(ahead + wrong, 1, ahead.length());
                faulty(ahead + wrong + TOKENS[Math.min(count, TOKENS.length - 1)], 1, ahead.length());
            }
        }
        faulty(";", 1, 0);
        faulty(RULE + ";", 1, 16);
        faulty("1", 1, 0);
        faulty("(", 1, 0);
        faulty("catch 1 when (1 < 2);", 1, 16);
        faulty("catch 1 when [1] < 2;", 1, 15);
        faulty("catch 1 when all < 2;", 1, 17);
        faulty("catch 1 when 1 < 2 < 3;", 1, 19);
        faulty("catch 1 when 1 < all;", 1, 17);
        faulty("catch 1 when not;", 1, 16);
        faulty("catch 1 when [];", 1, 14);
        faulty("catch () when all;", 1, 7);
        faulty("catch min() when all;", 1, 10);
        faulty("catch min(1) when all;", 1, 11);
        faulty("catch min(1,) when all;", 1, 12);
        faulty("catch min(1,2,3) when all;", 1, 13);
        faulty("catch min[1,2] when all;", 1, 9);
        faulty("catch (1,2) when all;", 1, 8);
        faulty("catch min when all;", 1, 10);
        faulty("catch max + 1 when all;", 1, 10);
        faulty("catch 1 when min < 2;", 1, 17);
        for (String sign : new String[] {"+", "-", "*", "/"}) {
            faulty("catch 1 " + sign + " 2 3 when all;", 1, 12);
            faulty("catch 1 " + sign + " 2 press when all;", 1, 12);
            faulty("catch 1 " + sign + " 2 3 4 when all;", 1, 12);
            faulty("catch 1 " + sign + " " + sign + " 2 when all;", 1, 10);
        }
        faulty("catch -1 when all;", 1, 6);
        faulty("catch 1 - - 1 when all;", 1, 10);
        faulty("catch [1] when all;", 1, 6);
        faulty("catch 1 when all or;", 1, 19);
        faulty("catch 1 when or all;", 1, 13);
        faulty("catch 1 when all not all;", 1, 17);
        faulty("catch 1 if all;", 1, 8);
        faulty("kind a opens 1", 1, 7);
        faulty("kind a stiff 1 stiff 1", 1, 15);
        faulty("kind a stiff 1 tires 1", 1, 15);
        faulty("kind a stiff 1 opens 1 tears 1", 1, 23);
        faulty("kind a stiff -1", 1, 13);
        faulty("kind a stiff press", 1, 13);
        faulty("kind a stiff (1)", 1, 13);
        faulty("kind a stiff 1 opens 1 tires 0 tears 1 kind", 1, 39);
        faulty("kind a, b", 1, 6);
    }

    // I: FAULT 1 "(words and numbers whole, at their first byte"
    private void wholeWords() {
        for (String word : OWN_WORDS) {
            boolean begins = word.equals("kind") || word.equals("catch") || word.equals("lint");
            faulty(word, 1, begins ? word.length() : 0);
            faulty(word + "x", 1, 0);
            faulty(" " + word.substring(0, word.length() - 1), 1, 1);
            faulty(" " + word.toUpperCase(), 1, 1);
        }
        faulty("kind a stiffer 1", 1, 7);
        faulty("kind a stif", 1, 7);
        faulty("catch 1 whe", 1, 8);
        faulty("catch 1 when al", 1, 13);
        faulty("catch 1 when all an", 1, 17);
        faulty("catch 1 when abcdefghijklmnop;", 1, 13);
        faulty("abcdefghijklmnop", 1, 0);
        faulty("123456789", 1, 0);
        faulty("kind 123456789", 1, 5);
        faulty("kind a 123456789", 1, 7);
        faulty("catch 1 12345 when all;", 1, 8);
        faulty("catch 1 when all 12345", 1, 17);
        faulty("catch 1 when is 12345", 1, 16);
    }

    // I: "where a number .. is asked, a 5th digit .. at itself"; "N (1 to 4 digits)"
    private void fifthDigit() {
        String[] aheads = {"kind a stiff ", "kind a stiff 1 opens ", "kind a stiff 1 opens 1 tires ",
            "kind a stiff 1 opens 1 tires 0 tears ", "catch ", "catch 1 + ", "catch 1 / ", "catch (", "catch max(",
            "catch max(1,", "lint ", "catch 1 when ", "catch 1 when not ", "catch 1 when 1 = ", "catch 1 when all or "};
        for (String ahead : aheads) {
            for (String digits : new String[] {"00000", "00001", "12345", "99999", "1000000000000"}) {
                faulty(ahead + digits + ";", 1, ahead.length() + 4);
            }
        }
        for (String digits : new String[] {"0", "9", "00", "99", "000", "999", "0000", "9999"}) {
            fine("catch " + digits + " when " + digits + " < (" + digits + ");", 1);
        }
    }

    // I: "where .. a NAME is asked, .. a 7th letter of what is no OWN WORD at itself"
    private void seventhLetter() {
        faulty("kind abcdefg" + REST, 1, 11);
        faulty("kind abcdefgh" + REST, 1, 11);
        faulty("kind columns" + REST, 1, 11);
        faulty("kind columncolumn" + REST, 1, 11);
        faulty("kind kindkind" + REST, 1, 11);
        faulty("kind abcdef" + REST + "catch 1 when is abcdefg;", 1, 66);
        faulty("catch 1 when is abcdefg;", 1, 22);
        faulty("catch 1 when is columns;", 1, 22);
        faulty("kind abcdef1", 1, 11);
    }

    // I: "NAMES of KINDS: 1 to 6 letters"
    private void lettersOfNames() {
        for (String name : new String[] {"a", "z", "A", "Z", "ab", "abc", "abcd", "abcde", "abcdef", "zZaAyY"}) {
            fine("kind " + name + REST + "catch 1 when is " + name + ";", 2);
        }
        for (char c = 0; c < 256; c++) {
            boolean letter = c >= 'a' && c <= 'z' || c >= 'A' && c <= 'Z';
            if (letter) {
                fine("kind " + c + REST, 1);
                fine("kind abcde" + c + REST, 1);
            } else if (c != 10 && c != 32) {
                faulty("kind " + c + REST, 1, 5);
                faulty("kind ab" + c + REST, 1, 7);
            }
        }
        faulty("kind  " + REST, 1, 7);
    }

    // I: "NAMES .. no OWN WORD"; "an OWN WORD where a NAME must be"
    private void ownWordsAsNames() {
        for (String word : OWN_WORDS) {
            faulty("kind " + word + REST, 1, 5);
            faulty("catch 1 when is " + word + ";", 1, 16);
            fine("kind " + word.toUpperCase() + REST, 1);
            fine("kind " + word.substring(0, word.length() - 1) + "X" + REST, 1);
            fine("kind " + word.substring(0, word.length() - 1) + REST, 1);
            if (word.length() < 6) {
                fine("kind " + word + "s" + REST, 1);
                fine("kind s" + word + REST, 1);
            }
        }
    }

    // I: "unlike ones"; FAULT 3 "a NAME that is a KIND's already .. at it"
    private void unlikeNames() {
        fine("kind a" + REST + "kind A" + REST + "kind aa" + REST + "kind b" + REST + "kind ab" + REST + "kind ba" + REST, 6);
        fine("kind abcdef" + REST + "kind abcdeg" + REST + "kind bbcdef" + REST + "kind abcde" + REST + "kind bcdef" + REST, 5);
        faulty("kind a" + REST + "kind a" + REST, 3, 44);
        faulty("kind a" + REST + "kind b" + REST + "kind a" + REST, 3, 83);
        faulty("kind a" + REST + "kind b" + REST + "kind b" + REST, 3, 83);
        faulty("kind abcdef" + REST + "kind  abcdef;", 3, 50);
        faulty("kind a" + REST + "kind a", 3, 44);
        faulty("kind a" + REST + "kind a1", 3, 44);
        faulty("kind a" + REST + "kind a?", 3, 44);
    }

    // FAULT 3: "one that is no KIND's (told ahead) behind is, at it"
    private void namesBehindIs() {
        fine("kind a" + REST + "catch 1 when is a;", 2);
        faulty("catch 1 when is a;", 3, 16);
        faulty("catch 1 when is a; kind a" + REST, 3, 16);
        faulty("kind ab" + REST + "catch 1 when is a;", 3, 56);
        faulty("kind a" + REST + "catch 1 when is ab;", 3, 55);
        faulty("kind a" + REST + "catch 1 when is A;", 3, 55);
        faulty("kind a" + REST + "lint 1 when not [is a and not is b];", 3, 72);
        faulty("catch 1 when is a1;", 3, 16);
        faulty("catch 1 when is a", 3, 16);
        faulty("kind abcdef" + REST + "catch 1 when is abcdeg;", 3, 60);
    }

    // I: "stiff 1 .. 999, opens 1 .. 9999, tires 0 .. 1000, tears 1 .. 9999"; FAULT 2 "a number (of 1 to 4 digits) that
    // can't be, at it"
    private void numbersOfKinds() {
        int[] least = {1, 1, 0, 1};
        int[] most = {999, 9999, 1000, 9999};
        String[] words = {" stiff ", " opens ", " tires ", " tears "};
        for (int what = 0; what < 4; what++) {
            StringBuilder ahead = new StringBuilder("kind a");
            for (int i = 0; i < what; i++) {
                ahead.append(words[i]).append(1);
            }
            ahead.append(words[what]);
            StringBuilder behind = new StringBuilder();
            for (int i = what + 1; i < 4; i++) {
                behind.append(words[i]).append(1);
            }
            for (int n = 0; n <= 9999; n++) {
                boolean edge = n < 3 || Math.abs(n - most[what]) < 3 || n % 1111 == 0;
                if (edge && n >= least[what] && n <= most[what]) {
                    HookBoard x = Check.board(ahead.toString() + n + behind + ";", 1, 1);
                    due("6: kind(0, " + what + ")", x.kind(0, what), n);
                    due("6: of four digits", Check.board(ahead + String.format("%04d", n) + behind + ";", 1, 1)
                        .kind(0, what), n);
                } else if (edge) {
                    faulty(ahead.toString() + n + behind + ";", 2, ahead.length());
                    faulty(ahead.toString() + n, 2, ahead.length());
                    faulty(ahead + String.format("%04d", n) + "?", 2, ahead.length());
                }
            }
        }
    }

    // FAULT 4: "the 7th ( [ not that is open at once .., at it"
    private void sixOpenAtOnce() {
        String[] opens = {"(", "min(", "max(1,", "( "};
        String[] closes = {")", ",1)", ")", ")"};
        for (int i = 0; i < opens.length; i++) {
            fine("catch " + opens[i].repeat(6) + "1" + closes[i].repeat(6) + " when all;", 1);
            String seven = "catch " + opens[i].repeat(6);
            int place = seven.length() + opens[i].indexOf('(');
            faulty(seven + opens[i] + "1" + closes[i].repeat(7) + " when all;", 4, place);
            faulty(seven + opens[i], 4, place);
        }
        fine("catch 1 when " + "[".repeat(6) + "all" + "]".repeat(6) + ";", 1);
        faulty("catch 1 when " + "[".repeat(7) + "all" + "]".repeat(7) + ";", 4, 19);
        fine("catch 1 when " + "not ".repeat(6) + "all;", 1);
        faulty("catch 1 when " + "not ".repeat(7) + "all;", 4, 37);
        fine("catch 1 when not [not [((1)) < 2]];", 1);
        fine("catch 1 when not [not [2 < min((1),1)]];", 1);
        faulty("catch 1 when not [not [(((1))) < 2]];", 4, 25);
        faulty("catch 1 when [not [[not [not all]]]];", 4, 25);
        faulty("catch 1 when not [not [2 < min(max(1,(2)),1)]];", 4, 37);
        faulty("catch 1 when [[[[[[not all]]]]]];", 4, 19);
        faulty("catch 1 when [[[[[[(1) < 2]]]]]];", 4, 19);
        faulty("catch 1 when not not not not not not [all];", 4, 37);
    }

    // FAULT 4: "open at once (not until its FACT ends)"
    private void notUntilItsFactEnds() {
        String six = "((((((1))))))";
        fine("catch " + six + "+" + six + "*" + six + " when " + six + "<" + six + " or " + six + "=" + six + ";", 1);
        fine("catch min(" + "(((((1)))))" + "," + "(((((2)))))" + ") when all;", 1);
        faulty("catch min((((((1)))))," + six + ") when all;", 4, 27);
        String nots = "not not not not not not ";
        fine("catch 1 when " + nots + "all and " + nots + "all or " + nots + "1 < 2 and " + nots + "all;", 1);
        fine("catch 1 when not all and " + six + " < 1 or not 1 < 2 and " + six + " > 2;", 1);
        fine("catch 1 when not [all] and " + six + " < 1;", 1);
        fine("catch 1 when not 1 < (((((2))))) and " + six + " < 1;", 1);
        faulty("catch 1 when not 1 < " + six + ";", 4, 26);
        faulty("catch 1 when not " + six + " < 1;", 4, 22);
        faulty("catch 1 when not not not not not not 1 < (2);", 4, 41);
        fine("catch 1 when [[[[[[all]]]]]] and [[[[[not all]]]]];lint " + six + " when all;", 2);
        faulty("catch 1 when [not not not not all and not not not not not not all];", 4, 58);
    }

    private static String kinds(int count) {
        StringBuilder text = new StringBuilder();
        for (int i = 0; i < count; i++) {
            text.append("kind ").append((char) ('a' + i)).append(REST);
        }
        return text.toString();
    }

    // I: "unlike ones (8 at most)"; FAULT 5 "a 9th KIND, at its first byte"
    private void eightKinds() {
        for (int count = 0; count <= 8; count++) {
            HookBoard x = new HookBoard();
            due("4: so many STATEMENTS", Check.text(x, kinds(count) + RULE, 1, 1), count + 1);
            due("38: so many KINDS", x.all(1), count);
            due("6: the last KIND", x.kind(count - 1, 0), count > 0 ? 1 : NONE);
            due("6: none behind it", x.kind(count, 0), NONE);
        }
        int length = kinds(8).length();
        fine(kinds(8) + "catch 1 when is a or is h;", 9);
        faulty(kinds(9), 5, length);
        faulty(kinds(8) + RULE + " \nkind i" + REST, 5, length + 18);
        faulty(kinds(8) + "kind", 5, length);
        faulty(kinds(8) + "kind a" + REST, 5, length);
        faulty(kinds(8) + "kind is", 5, length);
        faulty(kinds(8) + "kind abcdefg", 5, length);
        faulty(kinds(8) + "kind1", 5, length);
        faulty(kinds(8) + "kin", 1, length);
        faulty(kinds(8) + "catch 1 when is i;", 3, length + 16);
    }

    // FAULT 5: "a 25th STATEMENT (whatever stands there), at its first byte"
    private void twentyFourStatements() {
        fine(RULE.repeat(24), 24);
        fine(RULE.repeat(24) + " \n ", 24);
        fine(kinds(8) + RULE.repeat(16), 24);
        for (String more : new String[] {RULE, "kind z" + REST, "catch", "?", ";", "1", "(", "x", "\u00ff", "\t"}) {
            faulty(RULE.repeat(24) + more, 5, 384);
            faulty(RULE.repeat(24) + "\n " + more, 5, 386);
        }
        faulty(kinds(8) + RULE.repeat(16) + "kind i", 5, kinds(8).length() + 256);
        faulty(RULE.repeat(23) + "?", 1, 368);
        faulty(RULE.repeat(23) + "lint 1 when all", 1, 383);
    }

    // I: "FAULTS, the first along the text"
    private void firstAlongTheText() {
        faulty("kind a stiff 0 opens 0 ?", 2, 13);
        faulty("kind a stiff 1 ? opens 0", 1, 15);
        faulty("kind a stiff 0opens", 2, 13);
        faulty("kind a" + REST + "kind a stiff 0", 3, 44);
        faulty("kind a stiff 1000 opens 10000", 2, 13);
        faulty("kind a stiff 10000 opens 0", 1, 17);
        faulty("catch 1 when is b or (((((((1", 3, 16);
        faulty("catch (((((((1 when is b", 4, 12);
        faulty("catch ((((((1 when is b", 1, 14);
        faulty("catch 12345 (((((((", 1, 10);
        faulty(kinds(8) + "catch 1 when is z; kind i", 3, kinds(8).length() + 16);
        faulty("? " + RULE.repeat(25), 1, 0);
        faulty(RULE.repeat(24) + kinds(7), 5, 384);
    }

    // Promise 6: "Of a KIND, by its number in the TEXT: 0 stiff, 1 opens, 2 tires, 3 tears. NONE when there is none
    // such, or for others."
    private void kindsThatThereAre() {
        HookBoard x = Check.board(RULE + "kind a stiff 999 opens 9999 tires 1000 tears 9998;" + RULE
            + "kind b stiff 2 opens 3 tires 4 tears 5;", 1, 1);
        int[][] due = {{999, 9999, 1000, 9998}, {2, 3, 4, 5}};
        for (int k = 0; k < 2; k++) {
            for (int what = 0; what < 4; what++) {
                due("6: kind(" + k + ", " + what + ")", x.kind(k, what), due[k][what]);
            }
            for (int what : new int[] {-1, 4, 5, Integer.MIN_VALUE, Integer.MAX_VALUE}) {
                due("6: kind(" + k + ", " + what + ")", x.kind(k, what), NONE);
            }
        }
        for (int k : new int[] {-1, 2, 7, 8, Integer.MIN_VALUE, Integer.MAX_VALUE, 1 << 30, 1 << 31}) {
            for (int what = -1; what <= 4; what++) {
                due("6: kind(" + k + ", " + what + ")", x.kind(k, what), NONE);
            }
        }
        Check.text(x, "kind c stiff 7 opens 7 tires 7 tears 7;", 1, 1);
        due("6: of the latest TEXT", x.kind(0, 0), 7);
        due("6: no more of the one ahead", x.kind(1, 0), NONE);
    }

    private void chance(String text, int want) {
        HookBoard x = Check.board("kind a" + REST + text, 1, 1);
        x.hook(0, 0, 0);
        x.loops(0, 1);
        due("17: " + text, x.chance(0, 0, 0), want);
    }

    // Texts as full of operations as a tape can be
    private void longSums() {
        chance("catch 1" + "+1".repeat(320) + " when all;", 321);
        chance("catch 999" + "-1".repeat(320) + " when all;", 679);
        chance("catch 7" + "*1".repeat(320) + " when all;", 7);
        chance("catch 7" + "/1".repeat(320) + " when all;", 7);
        chance("catch 0" + "+1*1".repeat(160) + " when all;", 160);
        chance("catch 5 when 1>2" + " or 1>2".repeat(84) + " or 1<2;", 5);
        chance("catch 5 when 1<2" + " and 1<2".repeat(74) + ";", 5);
        chance("catch 5 when 1<2" + " and 1<2".repeat(73) + " and 1>2;", 0);
        String nested = "1";
        for (int i = 0; i < 6; i++) {
            nested = i % 2 == 0 ? "1+2*(" + nested + ")" : "1+1*max(1,0+1*" + nested + ")";
        }
        chance("catch " + nested + " when [all and [all and 1+1*(1+1*(1+1*(1+1*1)))=5]];", 22);
        chance(RULE.repeat(22) + "catch " + "1+1*max(1,".repeat(6) + "1+1*1" + ")".repeat(6) + " when all;", 8);
    }
}
