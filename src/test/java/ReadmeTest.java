import java.lang.reflect.Field;
import java.lang.reflect.Method;
import java.lang.reflect.Modifier;
import java.nio.file.Files;
import java.nio.file.Path;
import java.util.Arrays;
import java.util.List;
import java.util.regex.Matcher;
import java.util.regex.Pattern;

/** README.md, read from the working directory: its example answers what it says, and no call is missing. */
public final class ReadmeTest {
    private static final Check CHECK = new Check("ReadmeTest");
    private static final Pattern MAKING =
        Pattern.compile("TornTryCounter card = new TornTryCounter\\(([^)]*)\\);");
    private static final Pattern CALL =
        Pattern.compile("card\\.(\\w+)\\(([^)]*)\\); +// (-?\\w+)(:.*)?");

    public static void main(String[] args) throws Exception {
        List<String> lines = Files.readAllLines(Path.of("README.md"));
        theExample(lines.subList(lines.indexOf("```java") + 1, lines.size()));
        theCalls(lines);
        theConstants(lines);
        CHECK.end();
    }

    private static void theExample(List<String> lines) throws Exception {
        Matcher making = MAKING.matcher(lines.get(0));
        CHECK.due("the example makes a card first", making.matches(), true);
        int[] made = numbers(making.group(1));
        TornTryCounter card = new TornTryCounter(made[0], made[1], made[2], made[3]);
        int end = lines.indexOf("```");
        CHECK.due("the example has calls", end > 1, true);
        for (String line : lines.subList(1, end)) {
            Matcher call = CALL.matcher(line);
            boolean isCall = call.matches();
            CHECK.due("is a call with its answer: " + line, isCall, true);
            if (isCall) {
                int got = answer(card, call.group(1), numbers(call.group(2)));
                CHECK.due(line, got, meaning(call.group(3)));
            }
        }
    }

    private static void theCalls(List<String> lines) {
        for (Method method : TornTryCounter.class.getDeclaredMethods()) {
            if (Modifier.isPublic(method.getModifiers())) {
                CHECK.due("rows for the call " + method.getName(),
                    rows(lines, "| `" + method.getName() + "("), 1);
            }
        }
    }

    private static void theConstants(List<String> lines) throws Exception {
        for (Field field : TornTryCounter.class.getFields()) {
            CHECK.due("rows for the constant " + field.getName(),
                rows(lines, "| `" + field.getName() + "` | " + field.getInt(null) + " | "), 1);
        }
    }

    private static long rows(List<String> lines, String start) {
        return lines.stream().filter(line -> line.startsWith(start)).count();
    }

    private static int[] numbers(String text) {
        if (text.isEmpty()) {
            return new int[0];
        }
        return Arrays.stream(text.split(", ")).mapToInt(Integer::decode).toArray();
    }

    private static int answer(TornTryCounter card, String name, int[] numbers) throws Exception {
        Class<?>[] types = new Class<?>[numbers.length];
        Arrays.fill(types, int.class);
        Object[] given = Arrays.stream(numbers).boxed().toArray();
        Object got = TornTryCounter.class.getMethod(name, types).invoke(card, given);
        return got instanceof Boolean ? ((Boolean) got ? 1 : 0) : (Integer) got;
    }

    private static int meaning(String word) throws Exception {
        if (word.equals("true") || word.equals("false")) {
            return word.equals("true") ? 1 : 0;
        }
        return Character.isUpperCase(word.charAt(0))
            ? TornTryCounter.class.getField(word).getInt(null) : Integer.parseInt(word);
    }
}
