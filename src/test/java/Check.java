/** What the tests share: counting wrong answers, and feeding a text. */
final class Check {
    private int wrong = 0;

    void due(String call, long got, long want) {
        if (got != want) {
            wrong++;
            System.out.println(call + " answered " + got + ", due is " + want);
        }
    }

    void due(String call, boolean got, boolean want) {
        due(call, got ? 1 : 0, want ? 1 : 0);
    }

    /** Ends the program with exit code 1 if an answer was wrong. */
    void finish() {
        System.out.println(wrong == 0 ? "all answers are as due" : wrong + " answers are not as due");
        if (wrong != 0) {
            System.exit(1);
        }
    }

    void stopIfWrong() {
        if (wrong != 0) {
            finish();
        }
    }

    /** The tape becomes a text. */
    static void feed(HookBoard board, String text) {
        int size = (text.length() + 19) / 20 * 20;
        int[] numbers = new int[size / 4];
        for (int i = 0; i < size; i++) {
            int c = i < text.length() ? text.charAt(i) : ' ';
            numbers[i / 4] |= c << 24 - i % 4 * 8;
        }
        board.end(0);
        for (int i = 0; i < numbers.length; i += 5) {
            board.feed(numbers[i], numbers[i + 1], numbers[i + 2], numbers[i + 3], numbers[i + 4]);
        }
        board.end(text.length());
    }

    static int text(HookBoard board, String text, int wide, int high) {
        feed(board, text);
        return board.text(wide, high);
    }

    /** A new object with a text that has no fault. */
    static HookBoard board(String text, int wide, int high) {
        HookBoard board = new HookBoard();
        if (text(board, text, wide, high) < 0) {
            throw new IllegalStateException("fault " + board.fault(0) + " at " + board.fault(1) + " of " + text);
        }
        return board;
    }
}
