import java.io.IOException;
import java.nio.file.Files;
import java.nio.file.Path;
import java.util.Arrays;
import java.util.List;
import java.util.TreeSet;
import java.util.Set;
import java.util.regex.Matcher;
import java.util.regex.Pattern;

/** The rules of LANGUAGE.md that can be seen from the words of the program, and the face of the document. */
public final class LanguageTest {
    private static final List<String> REFUSED = List.of("\\bthrow\\b", "\\btry\\b", "\\bcatch\\b", "\\bsynchronized\\b",
        "\\bassert\\b", "->", "::", "\\binstanceof\\b", "\\bstatic\\s*\\{", "\\bthrows\\b", "Exact\\b", "\\bnew \\w+\\(.*\\)\\s*\\{",
        "\\bdouble\\b", "\\bfloat\\b", "\\bprotected\\b", "\\bpackage\\b", "\\bhashCode\\b", "\\btoString\\b",
        "\\bSystem\\.(?!arraycopy)", "\\bThread\\b", "\\b(Integer|Long)\\.", "\\bRandom\\b", "\"\\s*\\+", "\\+\\s*\"", "while \\(true\\)", "for \\(;;\\)");

    public static void main(String[] args) throws IOException {
        Check check = new Check();
        String source = Files.readString(Path.of("src/main/java/HookBoard.java"));
        String code = source.replaceAll("(?s)/\\*.*?\\*/", "").replaceAll("//[^\n]*", "");
        check.due("signs above 127", source.chars().filter(c -> c > 127).count(), 0);
        String withoutTexts = code.replaceAll("\"[^\"\n]*\"", "\"\"");
        for (String refused : REFUSED) {
            Matcher m = Pattern.compile(refused).matcher(withoutTexts);
            check.due(refused, m.find() ? 1 : 0, 0);
        }
        check.due("imports", lines(code, "import (?!java\\.util\\.Arrays;).*"), 0);
        face(check, code);
        methods(check, code);
        check.finish();
    }

    private static long lines(String code, String pattern) {
        return Arrays.stream(code.split("\n")).filter(l -> l.strip().matches(pattern)).count();
    }

    private static void face(Check check, String code) throws IOException {
        String doc = Files.readString(Path.of("../shared/DOC.md"));
        String wanted = doc.substring(doc.indexOf("```java"), doc.indexOf("```\n", doc.indexOf("```java") + 7));
        check.due("the face is the document's", faceOf(wanted).equals(faceOf(code)), true);
        check.due("how many it has", faceOf(code).size(), 40);
    }

    private static Set<String> faceOf(String code) {
        Set<String> face = new TreeSet<>();
        Matcher m = Pattern.compile("(?m)^ *public ([^;{]*?)\\s*[;{]").matcher(code);
        while (m.find()) {
            face.add(m.group(1));
        }
        return face;
    }

    /** No method of the program's own bears a name of the face; none is long or has many parameters. */
    private static void methods(Check check, String code) {
        Set<String> names = new TreeSet<>();
        Matcher m = Pattern.compile("(?m)^ *public \\w+ (\\w+)\\(").matcher(code);
        while (m.find()) {
            names.add(m.group(1));
        }
        String[] lines = code.split("\n");
        Pattern head = Pattern.compile("^( +)(?!return|else|public)(?:private |static |final )*[\\w\\[\\]]+ (\\w+)\\(([^)]*)\\) \\{$");
        for (int i = 0; i < lines.length; i++) {
            Matcher h = head.matcher(lines[i]);
            if (h.matches()) {
                check.due(h.group(2) + " is no name of the face", names.contains(h.group(2)), false);
                check.due(h.group(2) + " has seven parameters at most", h.group(3).split(",").length <= 7, true);
                int end = i;
                while (end < lines.length && !lines[end].equals(h.group(1) + "}")) {
                    end++;
                }
                check.due(h.group(2) + " is short", end - i <= 60, true);
            }
        }
        check.due("classes", lines(code, ".*\\bclass \\w+ \\{") <= 12, true);
    }
}
