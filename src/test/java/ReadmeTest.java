import java.io.IOException;
import java.lang.reflect.Method;
import java.nio.file.Files;
import java.nio.file.Path;
import java.util.HashMap;
import java.util.Map;
import java.util.regex.Matcher;
import java.util.regex.Pattern;

/** Makes the calls that README.md shows: each must answer the number that stands behind it. */
final class ReadmeTest {
    private static final Pattern CALL =
        Pattern.compile("(?:int (\\w+) = )?pocket\\.(\\w+)\\(([^)]*)\\); +// (-?\\d+)(:.*)?");
    private static final Pattern FEED =
        Pattern.compile("for \\(char sign : \"([^\"]*)\"\\.toCharArray\\(\\)\\) pocket\\.feed\\(sign, 1\\);");
    private static final Pattern FINDING = Pattern.compile("\\| (-\\d+) \\| ([A-Z]+) +\\|.*");
    private static final Check check = new Check();
    private static final Map<String, Integer> names = new HashMap<>();
    private static PocketHole pocket = null;

    public static void main(String[] args) throws IOException, ReflectiveOperationException {
        boolean isCode = false;
        int findings = 0;
        for (String line : Files.readAllLines(Path.of("README.md"))) {
            if (line.startsWith("```")) {
                isCode = line.equals("```java");
            } else if (isCode && !line.isEmpty() && !line.startsWith("//")) {
                run(line);
            }
            Matcher finding = FINDING.matcher(line);
            if (finding.matches()) {
                int number = Check.class.getDeclaredField(finding.group(2)).getInt(null);
                check.due("the finding " + finding.group(2), Integer.parseInt(finding.group(1)), number);
                findings++;
            }
        }
        check.due("findings in the README", findings, 7);
        check.due("the README has calls", pocket == null ? 0 : 1, 1);
        check.end();
    }

    private static void run(String line) throws ReflectiveOperationException {
        Matcher call = CALL.matcher(line);
        Matcher feed = FEED.matcher(line);
        if (line.equals("PocketHole pocket = new PocketHole();")) {
            pocket = new PocketHole();
        } else if (feed.matches()) {
            Check.feed(pocket, feed.group(1));
        } else if (call.matches()) {
            int answer = answer(call.group(2), call.group(3));
            names.put(call.group(1), answer);
            check.due(line, answer, Integer.parseInt(call.group(4)));
        } else {
            check.due("no call is in the line: " + line, 0, 1);
        }
    }

    private static int answer(String name, String told) throws ReflectiveOperationException {
        String[] words = told.isEmpty() ? new String[0] : told.split(", ");
        Object[] values = new Object[words.length];
        Class<?>[] types = new Class<?>[words.length];
        for (int i = 0; i < words.length; i++) {
            values[i] = names.containsKey(words[i]) ? names.get(words[i]) : Integer.valueOf(words[i]);
            types[i] = int.class;
        }
        Method method = PocketHole.class.getMethod(name, types);
        return (Integer) method.invoke(pocket, values);
    }
}
