import java.io.IOException;
import java.lang.reflect.Method;
import java.lang.reflect.Modifier;
import java.nio.file.Files;
import java.nio.file.Path;
import java.util.HashMap;
import java.util.List;
import java.util.Map;
import java.util.regex.Matcher;
import java.util.regex.Pattern;
import java.util.stream.Stream;

/** What README.md tells: its example answers as written there, and no call and no test is left out. */
public final class ReadmeTest {
    private static final Due due = new Due("ReadmeTest");
    /** A row of the example: the call, perhaps kept under a name, and behind it what it answers. */
    private static final Pattern ROW = Pattern.compile("(?:int (\\w+) = )?tale\\.(\\w+)\\((.*?)\\); +// (-?\\d+): .*");

    public static void main(String[] args) throws IOException {
        String readme = Files.readString(Path.of("README.md"));
        example(readme);
        everyCall(readme);
        everyTest(readme);
        due.done();
    }

    private static void example(String readme) {
        int start = readme.indexOf("```java\n");
        int end = readme.indexOf("```", start + 3);
        due.be("the example is there", start >= 0 && end > start ? 1 : 0, 1);
        List<String> rows = readme.substring(start + 8, end).lines().toList();
        due.be("the first row makes the object", rows.get(0).equals("TalePlay tale = new TalePlay();") ? 1 : 0, 1);
        TalePlay tale = new TalePlay();
        Map<String, Long> names = new HashMap<>();
        for (String row : rows.subList(1, rows.size())) {
            Matcher m = ROW.matcher(row);
            due.be("a row of the example: " + row, m.matches() ? 1 : 0, 1);
            if (m.matches()) {
                long answer = answerOf(tale, m.group(2), m.group(3), names);
                due.be(row, answer, Long.parseLong(m.group(4)));
                names.put(m.group(1), answer);
            }
        }
    }

    private static long answerOf(TalePlay tale, String call, String given, Map<String, Long> names) {
        String[] words = given.isEmpty() ? new String[0] : given.split(", ");
        Object[] values = new Object[words.length];
        for (int i = 0; i < words.length; i++) {
            Long named = names.get(words[i]);
            values[i] = named != null ? named.intValue() : Integer.parseInt(words[i]);
        }
        for (Method m : TalePlay.class.getDeclaredMethods()) {
            if (Modifier.isPublic(m.getModifiers()) && m.getName().equals(call)) {
                try {
                    return ((Number) m.invoke(tale, values)).longValue();
                } catch (ReflectiveOperationException e) {
                    throw new IllegalStateException(call + "(" + given + ")", e);
                }
            }
        }
        throw new IllegalStateException("there is no call " + call);
    }

    private static void everyCall(String readme) {
        String table = readme.substring(readme.indexOf("| calls |"), readme.indexOf("| numbers |"));
        for (Method m : TalePlay.class.getDeclaredMethods()) {
            if (Modifier.isPublic(m.getModifiers())) {
                due.be("README.md names " + m.getName(), table.contains("`" + m.getName() + "`") ? 1 : 0, 1);
            }
        }
    }

    private static void everyTest(String readme) throws IOException {
        try (Stream<Path> files = Files.list(Path.of("src/test/java"))) {
            for (Path file : files.toList()) {
                String name = file.getFileName().toString().replace(".java", "");
                due.be("README.md names " + name, readme.contains("`" + name + "`") ? 1 : 0, 1);
            }
        }
    }
}
