import java.util.ArrayList;
import java.util.List;
import java.util.Random;

/** Makes texts, right ones and ones with something wrong. */
final class TextMaker {
    private static final String[] PARTS = {"press", "shake", "loops", "lint", "worn", "row", "column"};
    private static final String[] JUNK = {"?", ";", "(", ")", "[", "]", ",", "0", "5", "1000", "1001", "12345", "00000",
        "kind", "stiff", "when", "not", "not not not not not not", "((((((", "[[[[[[", "is", "all", "min", "min(",
        "abcdefg", "a", "b", "B", "zz", "lint", "catch", "or", "and", " ", "\n", "\t", "<", "=", "+", "-", "*", "/",
        "\u0000", "\u00ff", "lint 1 when all;lint 1 when all;lint 1 when all;lint 1 when all;lint 1 when all;",
        "kind q stiff 1 opens 1 tires 0 tears 1;kind r stiff 1 opens 1 tires 0 tears 1;"};

    private final Random random;
    private final List<String> names = new ArrayList<>();

    TextMaker(Random random) {
        this.random = random;
    }

    String text() {
        StringBuilder out = new StringBuilder();
        int statements = random.nextInt(6) == 0 ? 30 : random.nextInt(9);
        names.clear();
        for (int i = 0; i < statements && out.length() < 560; i++) {
            int n = random.nextInt(6);
            if (n < 2 && names.size() < 8 || i == 0) {
                out.append(kind()).append(";").append(blank());
            } else {
                String word = n < 4 ? "catch " : "lint ";
                String sum = n < 4 && random.nextInt(3) > 0 ? "700 + " + sum(2) : sum(2);
                out.append(word).append(sum).append(" when ").append(random.nextBoolean() ? "all" : test(2)).append(";");
            }
        }
        return out.length() > 700 ? "" : out.toString();
    }

    private String kind() {
        String name = (char) ('a' + names.size()) + "xXxxX".substring(0, random.nextInt(6));
        names.add(name);
        return "kind " + name
            + " stiff " + number(1, random.nextBoolean() ? 9 : 999)
            + " opens " + number(1, random.nextBoolean() ? 30 : 9999)
            + " tires " + number(0, random.nextBoolean() ? 20 : 1000)
            + " tears " + number(1, random.nextBoolean() ? 30 : 9999);
    }

    private int number(int low, int high) {
        return low + random.nextInt(high - low + 1);
    }

    private String blank() {
        return " \n".substring(0, random.nextInt(3));
    }

    private String test(int deep) {
        int n = random.nextInt(deep > 0 ? 10 : 5);
        return switch (n) {
            case 0 -> "all";
            case 4 -> "is " + names.get(random.nextInt(names.size()));
            case 1, 2, 3 -> sum(deep - 1) + blank() + "<>=".charAt(random.nextInt(3)) + sum(deep - 1);
            case 5 -> "not " + test(deep - 1);
            case 6 -> "[" + blank() + test(deep - 1) + "]";
            case 7 -> test(deep - 1) + " or " + test(deep - 1);
            case 8 -> test(deep - 1) + " and " + test(deep - 1);
            default -> "not not " + test(deep - 1);
        };
    }

    private String sum(int deep) {
        int n = random.nextInt(deep > 0 ? 10 : 4);
        return switch (n) {
            case 0 -> String.valueOf(random.nextInt(random.nextBoolean() ? 10 : 10000));
            case 1, 2, 3 -> PARTS[random.nextInt(PARTS.length)];
            case 4 -> "(" + sum(deep - 1) + ")";
            case 5 -> (random.nextBoolean() ? "min" : "max") + blank() + "(" + sum(deep - 1) + "," + sum(deep - 1) + ")";
            case 6 -> sum(deep - 1) + " / " + sum(deep - 1);
            case 7 -> sum(deep - 1) + "*" + sum(deep - 1);
            case 8 -> sum(deep - 1) + "-" + blank() + sum(deep - 1);
            default -> sum(deep - 1) + "+" + sum(deep - 1);
        };
    }

    /** Something is taken out, put in, or cut off. */
    String spoil(String text) {
        int at = random.nextInt(text.length() + 1);
        String junk = JUNK[random.nextInt(JUNK.length)];
        return switch (random.nextInt(5)) {
            case 0 -> text.substring(0, at);
            case 1 -> at < text.length() ? text.substring(0, at) + text.substring(at + 1) : text;
            case 2 -> text.substring(0, at) + junk + text.substring(Math.min(text.length(), at + 1));
            default -> text.substring(0, at) + junk + text.substring(at);
        };
    }
}
