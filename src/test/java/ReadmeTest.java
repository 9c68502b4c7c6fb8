import java.lang.reflect.Method;
import java.lang.reflect.Modifier;
import java.nio.file.Files;
import java.nio.file.Path;
import java.util.Arrays;
import java.util.Set;
import java.util.TreeSet;
import java.util.regex.Matcher;
import java.util.regex.Pattern;

/** What README.md shows is played, the lines of Java and the run of calls: each answer must be as it stands there. */
public final class ReadmeTest {
    private static final String CALL = "(\\w+)\\(([-\\d, ]*)\\)";
    private static final Pattern TEXT_OF_EXAMPLE = Pattern.compile("\"(\\S+)\"\\.toCharArray");
    private static final Pattern LINE_OF_EXAMPLE = Pattern.compile("said\\." + CALL + "; +// (?:(-?\\d+)[:;])?");
    private static final Pattern TEXT_OF_RUN = Pattern.compile("^feed, byte by byte: (\\S+)$");
    private static final Pattern LINE_OF_RUN = Pattern.compile("^" + CALL + " +(-?\\d+) .*$");
    private static final Due due = new Due("ReadmeTest");

    private final NearlySaid x = new NearlySaid();
    private final Set<String> played = new TreeSet<>();

    public static void main(String[] args) throws Exception {
        String readme = Files.readString(Path.of("README.md"));
        new ReadmeTest().playExample(block(readme, "java"));
        ReadmeTest run = new ReadmeTest();
        run.playRun(block(readme, "text"));
        run.everyCallIsTold();
        due.end();
    }

    private static String[] block(String readme, String language) {
        Matcher block = Pattern.compile("(?s)```" + language + "\n(.*?)```").matcher(readme);
        boolean isThere = block.find();
        due.is("README.md has its " + language, isThere ? 1 : 0, 1);
        return isThere ? block.group(1).split("\n") : new String[0];
    }

    private void playExample(String[] lines) throws Exception {
        int answers = 0;
        for (String line : lines) {
            Matcher text = TEXT_OF_EXAMPLE.matcher(line);
            Matcher call = LINE_OF_EXAMPLE.matcher(line);
            if (text.find()) {
                Due.feed(x, text.group(1));
            } else if (call.find()) {
                long got = answer(call.group(1), call.group(2));
                if (call.group(3) != null) {
                    due.is(line, got, Long.parseLong(call.group(3)));
                    answers++;
                }
            }
        }
        due.is("answers in the lines of Java", answers, 3);
    }

    private void playRun(String[] lines) throws Exception {
        for (String line : lines) {
            Matcher text = TEXT_OF_RUN.matcher(line);
            Matcher call = LINE_OF_RUN.matcher(line);
            if (text.find()) {
                Due.feed(x, text.group(1));
            } else if (call.find()) {
                due.is(line, answer(call.group(1), call.group(2)), Long.parseLong(call.group(3)));
            } else {
                due.is("a row of the run that can be read, not: " + line, 0, 1);
            }
        }
    }

    private long answer(String name, String numbers) throws Exception {
        played.add(name);
        Object[] given = numbers.isEmpty() ? new Object[0]
            : Arrays.stream(numbers.split(", ")).map(Integer::valueOf).toArray();
        Class<?>[] types = new Class<?>[given.length];
        Arrays.fill(types, int.class);
        return ((Number) NearlySaid.class.getMethod(name, types).invoke(x, given)).longValue();
    }

    private void everyCallIsTold() {
        for (Method m : NearlySaid.class.getDeclaredMethods()) {
            if (Modifier.isPublic(m.getModifiers())) {
                due.is("README.md plays " + m.getName(), played.contains(m.getName()) ? 1 : 0, 1);
            }
        }
    }
}
