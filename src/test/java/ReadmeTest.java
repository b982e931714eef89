import java.nio.file.Files;
import java.nio.file.Path;
import java.util.ArrayList;
import java.util.List;
import java.util.regex.Matcher;
import java.util.regex.Pattern;

/** The calls of README.md answer what stands behind them: its code is compiled, and each told answer is asked for. */
public final class ReadmeTest {
    private static final Pattern CODE = Pattern.compile("(?s)```java\n(.*?)```");
    private static final Pattern TOLD = Pattern.compile("(?m)^(board\\..*\\)); *// (-?\\d+|true|false)\\b.*$");
    private static final Pattern CALL = Pattern.compile("(?m)^board\\.");

    public static void main(String[] args) throws Exception {
        Check check = new Check();
        List<String> blocks = all(CODE, Files.readString(Path.of("README.md")));
        check.due("blocks of code", blocks.size(), 2);
        check.stopIfWrong();
        check.due("calls that tell their answer", all(TOLD, blocks.get(1)).size(), all(CALL, blocks.get(1)).size());
        ask(check, programOf(blocks.get(0), blocks.get(1)));
        check.finish();
    }

    private static List<String> all(Pattern pattern, String text) {
        List<String> found = new ArrayList<>();
        Matcher m = pattern.matcher(text);
        while (m.find()) {
            found.add(m.group(m.groupCount() > 0 ? 1 : 0));
        }
        return found;
    }

    private static String programOf(String helper, String calls) {
        String asked = TOLD.matcher(calls).replaceAll(m -> {
            String call = m.group(1);
            return Matcher.quoteReplacement("check.due(\"" + call + "\", " + call + ", " + m.group(2) + ");");
        });
        return "final class ReadmeCalls {\n" + helper + "static void run(Check check) {\n" + asked + "}\n}\n";
    }

    /** The program stands in the same package as Check only if the same loader loads both: so it goes beside it. */
    private static void ask(Check check, String program) throws Exception {
        Path classes = Path.of(System.getProperty("java.class.path"));
        Path source = classes.resolve("ReadmeCalls.java");
        Files.writeString(source, program);
        // The javac that .ci/run calls, not the library's compiler: a java without one is enough for the tests then.
        int failed = new ProcessBuilder("javac", "-encoding", "UTF-8", "-cp", classes.toString(),
            "-d", classes.toString(), source.toString()).inheritIO().start().waitFor();
        check.due("README.md's code compiles: javac", failed, 0);
        if (failed == 0) {
            var run = Class.forName("ReadmeCalls").getDeclaredMethod("run", Check.class);
            run.setAccessible(true);
            run.invoke(null, check);
        }
    }
}
