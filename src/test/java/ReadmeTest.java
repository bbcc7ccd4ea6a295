import java.io.File;
import java.lang.reflect.Method;
import java.nio.file.Files;
import java.nio.file.Path;
import java.util.regex.Matcher;
import java.util.regex.Pattern;

/** README.md: each call of its example answers what stands behind it, and each test is named. */
public final class ReadmeTest {
    private static final Pattern CALL = Pattern.compile("(?m)^mine\\.(\\w+)\\(([^)]*)\\); +// ([^:\\s]+):");
    private static final Checks c = new Checks();

    public static void main(String[] args) throws Exception {
        String text = Files.readString(Path.of("README.md"));
        int calls = text.split("(?m)^mine\\.").length - 1;
        c.due("calls of the example that were understood", calls, askAll(text));
        c.holds("there are calls", calls > 0);
        for (File file : new File("src/test/java").listFiles()) {
            String name = file.getName().replace(".java", "");
            c.holds(name + " is named", text.contains("`" + name + "`"));
        }
        c.holds("how to run the tests", text.contains("    .ci/run\n"));
        c.close();
    }

    private static int askAll(String text) throws Exception {
        TributePitches mine = new TributePitches();
        Matcher call = CALL.matcher(text);
        int asked = 0;
        while (call.find()) {
            c.due(call.group(), number(call.group(3)), ask(mine, call.group(1), call.group(2)));
            asked++;
        }
        return asked;
    }

    private static long number(String word) throws Exception {
        boolean isName = Character.isLetter(word.charAt(0));
        return isName ? TributePitches.class.getField(word).getLong(null) : Long.parseLong(word);
    }

    private static long ask(TributePitches mine, String name, String numbers) throws Exception {
        String[] words = numbers.isEmpty() ? new String[0] : numbers.split(", ");
        Object[] given = new Object[words.length];
        for (int i = 0; i < words.length; i++) given[i] = Integer.valueOf(words[i]);
        for (Method m : TributePitches.class.getMethods()) {
            if (m.getName().equals(name)) return ((Number) m.invoke(mine, given)).longValue();
        }
        throw new IllegalArgumentException("there is no call " + name);
    }
}
