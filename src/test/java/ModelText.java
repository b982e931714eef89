import java.util.ArrayList;
import java.util.List;
import java.util.Map;
import java.util.regex.Matcher;
import java.util.regex.Pattern;

/** The TEXT read by a list of tokens, with a Fault thrown at the first thing that is wrong. */
final class ModelText {
    private static final Pattern TOKEN = Pattern.compile("[a-zA-Z]+|[0-9]+|[^ \n]", Pattern.DOTALL);
    private static final long LIMIT = 1000000000;

    private record Token(String text, int place, boolean glued) {
        boolean isWord() {
            return text.matches("[a-zA-Z]+");
        }

        boolean isNumber() {
            return text.matches("[0-9]+");
        }
    }

    final List<Model.Kind> kinds = new ArrayList<>();
    final List<Model.Rule> rules = new ArrayList<>();
    int statements = 0;
    private final List<Token> tokens = new ArrayList<>();
    private int at = 0;
    private int open = 0;

    ModelText(String text) {
        Matcher m = TOKEN.matcher(text);
        Token before = null;
        int end = 0;
        while (m.find()) {
            Token t = new Token(m.group(), m.start(), false);
            boolean glued = before != null && end == m.start() && (t.isWord() || t.isNumber())
                && (before.isWord() || before.isNumber());
            before = new Token(m.group(), m.start(), glued);
            tokens.add(before);
            end = m.end();
        }
        tokens.add(new Token("", text.length(), false));
    }

    void read() {
        while (!peek().text.isEmpty()) {
            if (statements == 24) {
                throw new Model.Fault(5, peek().place);
            }
            if (sees("kind")) {
                kind();
            } else if (sees("catch") || sees("lint")) {
                String word = take(peek().text).text;
                Model.Sum sum = sum();
                take("when");
                rules.add(new Model.Rule(word, sum, test()));
            } else {
                throw wrong();
            }
            take(";");
            statements++;
        }
    }

    private void kind() {
        if (kinds.size() == 8) {
            throw new Model.Fault(5, peek().place);
        }
        take("kind");
        Token name = name();
        if (kindOf(name) >= 0) {
            throw new Model.Fault(3, name.place);
        }
        int[] n = new int[4];
        String[] words = {"stiff", "opens", "tires", "tears"};
        int[][] range = {{1, 999}, {1, 9999}, {0, 1000}, {1, 9999}};
        for (int i = 0; i < 4; i++) {
            take(words[i]);
            Token number = peek();
            n[i] = number();
            if (n[i] < range[i][0] || n[i] > range[i][1]) {
                throw new Model.Fault(2, number.place);
            }
        }
        kinds.add(new Model.Kind(name.text, n[0], n[1], n[2], n[3]));
    }

    private int kindOf(Token name) {
        for (int k = 0; k < kinds.size(); k++) {
            if (kinds.get(k).name().equals(name.text)) {
                return k;
            }
        }
        return -1;
    }

    private Token name() {
        Token t = peek();
        if (t.glued || !t.isWord() || Model.OWN.contains(t.text)) {
            throw wrong();
        }
        if (t.text.length() > 6) {
            throw new Model.Fault(1, t.place + 6);
        }
        at++;
        return t;
    }

    private int number() {
        Token t = peek();
        if (t.glued || !t.isNumber()) {
            throw wrong();
        }
        if (t.text.length() > 4) {
            throw new Model.Fault(1, t.place + 4);
        }
        at++;
        return Integer.parseInt(t.text);
    }

    private Model.Test test() {
        List<Model.Test> any = new ArrayList<>();
        any.add(both());
        while (sees("or")) {
            take("or");
            any.add(both());
        }
        return hook -> any.stream().anyMatch(t -> t.of(hook));
    }

    private Model.Test both() {
        List<Model.Test> every = new ArrayList<>();
        every.add(fact());
        while (sees("and")) {
            take("and");
            every.add(fact());
        }
        return hook -> every.stream().allMatch(t -> t.of(hook));
    }

    private Model.Test fact() {
        if (sees("not")) {
            open("not");
            Model.Test inner = fact();
            open--;
            return hook -> !inner.of(hook);
        }
        if (sees("[")) {
            open("[");
            Model.Test inner = test();
            take("]");
            open--;
            return inner;
        }
        if (sees("all")) {
            take("all");
            return hook -> true;
        }
        if (sees("is")) {
            take("is");
            Token name = name();
            int kind = kindOf(name);
            if (kind < 0) {
                throw new Model.Fault(3, name.place);
            }
            return hook -> hook.get("kind") == kind;
        }
        Model.Sum left = sum();
        String sign = peek().text;
        if (!sign.equals("<") && !sign.equals(">") && !sign.equals("=")) {
            throw wrong();
        }
        take(sign);
        Model.Sum right = sum();
        return hook -> {
            int order = Long.compare(left.of(hook), right.of(hook));
            return sign.equals("<") ? order < 0 : sign.equals(">") ? order > 0 : order == 0;
        };
    }

    private Model.Sum sum() {
        Model.Sum sum = product();
        while (sees("+") || sees("-")) {
            String sign = take(peek().text).text;
            Model.Sum left = sum;
            Model.Sum right = product();
            sum = hook -> limit(left.of(hook) + (sign.equals("+") ? right.of(hook) : -right.of(hook)));
        }
        return sum;
    }

    private Model.Sum product() {
        Model.Sum product = part();
        while (sees("*") || sees("/")) {
            String sign = take(peek().text).text;
            Model.Sum left = product;
            Model.Sum right = part();
            product = sign.equals("*") ? hook -> limit(left.of(hook) * right.of(hook))
                : hook -> over(left.of(hook), right.of(hook));
        }
        return product;
    }

    private static long over(long a, long b) {
        return b == 0 ? 0 : (long) Math.floor((double) a / (double) b);
    }

    private static long limit(long n) {
        return n > LIMIT ? LIMIT : n < -LIMIT ? -LIMIT : n;
    }

    private Model.Sum part() {
        Token t = peek();
        if (!t.glued && t.isNumber()) {
            long n = number();
            return hook -> n;
        }
        if (sees("(")) {
            open("(");
            Model.Sum inner = sum();
            take(")");
            open--;
            return inner;
        }
        if (sees("min") || sees("max")) {
            boolean least = sees("min");
            at++;
            open("(");
            Model.Sum a = sum();
            take(",");
            Model.Sum b = sum();
            take(")");
            open--;
            return hook -> least ? Math.min(a.of(hook), b.of(hook)) : Math.max(a.of(hook), b.of(hook));
        }
        for (String fact : new String[] {"press", "shake", "loops", "lint", "worn", "row", "column"}) {
            if (sees(fact)) {
                take(fact);
                return (Map<String, Integer> hook) -> hook.get(fact);
            }
        }
        throw wrong();
    }

    private void open(String text) {
        Token t = take(text);
        open++;
        if (open == 7) {
            throw new Model.Fault(4, t.place);
        }
    }

    private Token peek() {
        return tokens.get(at);
    }

    private boolean sees(String text) {
        return !peek().glued && peek().text.equals(text);
    }

    private Token take(String text) {
        Token t = peek();
        if (!sees(text)) {
            throw wrong();
        }
        at++;
        return t;
    }

    private Model.Fault wrong() {
        return new Model.Fault(1, peek().place);
    }
}
